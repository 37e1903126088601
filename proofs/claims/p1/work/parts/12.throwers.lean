/-- the constructors up the line of an exception's classes -/
def dv (U : State) : Prop := va_Nw (.declares ⟨"java/lang/RuntimeException", "<init>", "(Ljava/lang/String;)V"⟩) U ∧ va_Nw (.declares ⟨"java/lang/Exception", "<init>", "(Ljava/lang/String;)V"⟩) U ∧ va_Nw (.declares ⟨"java/lang/Throwable", "<init>", "(Ljava/lang/String;)V"⟩) U
theorem dv.warm {s U : State} (hW : s.WarmedH U.vm) (h : dv s) : dv U := ⟨va_Nw.warmD hW h.1, va_Nw.warmD hW h.2.1, va_Nw.warmD hW h.2.2⟩
/-- a method on the bench's object x that reads, or throws -/
def tQ (dC : Nat → ClassId) (dI : Nat → Nat → Nat) (ws : va_W) (sz : Nat) (av : List Value) : Array Value → State → Prop := va_Pc av (fun U => U.heap.size = sz ∧ va_P (dC, dI) clx ws U.heap ∧ va_K (dC, dI) clx [] U ∧ ev U ∧ dv U ∧ zz sz U U.heap)
theorem tQ_blind {dC : Nat → ClassId} {dI : Nat → Nat → Nat} {ws : va_W} {sz : Nat} {av : List Value} : FrameBlind (tQ dC dI ws sz av) := fun a U g mk q => by
  obtain ⟨q0, q1, qP, qK, qE, qV, qZ⟩ := q
  exact ⟨q0, q1, qP, va_K.moved (u := U) (U := U.calling g mk a) (Vm.Alike.refl U.vm) qK, qE.calling g mk a, dv.warm (U := U.calling g mk a) (State.WarmedH.refl U) qV, zz.moved (u := U) (U := U.calling g mk a) (Vm.Alike.refl U.vm) qZ⟩
theorem tQ_at {dC : Nat → ClassId} {dI : Nat → Nat → Nat} {ws : va_W} {H : Heap} {av : List Value} {s : State} (hP : va_P (dC, dI) clx ws H) (hK : va_K (dC, dI) clx [] s) (hE : ev s) (hV : dv s) (hZ : zz H.size s H) : ∀ U : State, U.heap = H → s.WarmedH U.vm → tQ dC dI ws H.size av av.toArray U :=
  fun U hU hW => ⟨rfl, by rw [hU], by rw [hU]; exact hP, va_K.moved hW.alike hK, hE.warm hW, hV.warm hW, by rw [hU]; exact hZ.moved hW.alike⟩
def xF (fs : List Value) : Prop := fs[1]? = some (.int 0) ∧ fs[3]? = some (.int 0) ∧ fs[5]? = some (.int 0) ∧ fs.length = 16 ∧ ∃ qt, fs[9]? = some (.ref qt)
theorem px_ofWH {l : Launch} {y : MethodName} {ws ws' : List Cond} {rm : Room} {Pc : Array Value → State → Prop} {Qc : Array Value → State → Outcome → State → Prop} {mc ms : Nat} {free : Addr → Prop} {cc : ByteArray} {maxL : Nat} {ret : Option FieldType} {hh : List (Nat × Nat × Nat × Nat)}
    (hy : plainName y.cls = true) (hw : ws = Cond.codeWith y cc maxL ret hh :: ws')
    (body : ∀ p e s m args below meth c s₁, BodyLoose p l y (headSpec ws rm) cc maxL ret e s m args below meth c s₁ → c.maxLocals = maxL → Pc args s →
      W p l e (headSpec ws rm).room s m args below meth c s.heap [] 0 0 (MQ below Qc args s mc ms free) (entryFrame m args maxL)) : Met l y ws rm Pc Qc mc ms free := by
  refine MetFree.of_bodyS (code := cc) (maxLocals := maxL) (ret := ret) hy ?_ ?_
  · intro args s m h hn
    obtain ⟨m9, meth, c, hn9, h1, h2, h3, h4, -, h5, h6, -⟩ := Cond.codeWith_spec (atoms_spec (ws := ws) h _ (by rw [hw]; exact List.mem_cons_self))
    cases hn.symm.trans hn9
    exact ⟨meth, c, h1, h2, h3, h4, h5, h6⟩
  · intro p e s m args below meth c s₁ B hml hP _
    have hh0 : s₁.heap = s.heap := by rw [B.state]; rfl
    obtain ⟨t, a1, o, b1, b2, b3⟩ := body p e s m args below meth c s₁ B hml hP s₁ hh0 (Stand.of_body B)
    exact ⟨t, o, a1, b1, b2, ⟨b3.1, b3.2⟩⟩
set_option maxRecDepth 100000 in
theorem at_IOO {args : Array Value} {s : State} (hu : ∀ w ∈ wU, w.before args s = true) (hev : ev s) (hdv : dv s) : ∀ w ∈ vx_atS RX11 276 "java/lang/IndexOutOfBoundsException" ["java/lang/RuntimeException", "java/lang/Exception"], w.before args s = true := by
  have key : ∀ w ∈ Bundle.ownAtoms RX11 276 "java/lang/IndexOutOfBoundsException" ["java/lang/RuntimeException", "java/lang/Exception"], vx_no w = true → w.before args s = true := by
    simp only [Bundle.ownAtoms, Bundle.throwableAtoms, Bundle.throwableSAtoms, Bundle.chainSAtoms, Bundle.passSAtoms, List.cons_append, List.nil_append, List.append_assoc, List.forall_mem_cons]
    exact ⟨fun _ => hu _ u543, fun _ => hu _ u544, fun _ => hu _ u545, fun _ => hu _ u546, fun _ => hu _ u547, fun _ => hu _ u548, fun _ => hu _ u549, fun _ => hu _ u550, fun _ => hu _ u1, fun _ => hu _ u2, fun _ => hu _ u551, fun _ => hu _ u552, fun _ => hu _ u553, fun _ => hu _ u554, fun _ => hu _ u555, fun _ => hu _ u556, fun _ => hu _ u557, fun _ => hu _ u558, fun _ => hu _ u559, fun _ => hu _ u560, fun h9 => absurd h9 (by decide +kernel), fun _ => hu _ u561, fun h9 => absurd h9 (by decide +kernel), fun _ => hu _ u562, fun _ => hu _ u563, fun _ => hu _ u564, fun _ => hu _ u565, fun _ => hu _ u562, fun _ => hu _ u566, fun _ => hu _ u567, fun _ => hu _ u568, fun _ => hu _ u569, fun _ => va_Nw.use rfl hdv.1, fun _ => hu _ u569, fun _ => hu _ u570, fun _ => hu _ u571, fun _ => hu _ u572, fun _ => va_Nw.use rfl hdv.2.1, fun _ => hu _ u572, fun _ => hu _ u573, fun _ => hu _ u574, fun _ => hu _ u563, fun _ => va_Nw.use rfl hdv.2.2, fun _ => hu _ u575, fun _ => hu _ u576, fun _ => va_Nw.use rfl hev.2.2.2.1.1, fun _ => hu _ u577, fun _ => hu _ u578, fun _ => hu _ u579, fun _ => hu _ u580, fun _ => hu _ u581, fun _ => hu _ u582, fun h9 => absurd h9 (by decide +kernel), fun h9 => absurd h9 (by decide +kernel), fun _ => hu _ u583, fun _ => hu _ u584, fun _ => hu _ u585, fun _ h => absurd h List.not_mem_nil⟩
  exact fun w hw => key w (List.mem_filter.mp hw).1 (List.mem_filter.mp hw).2
set_option maxRecDepth 100000 in
theorem ot_IOO (ik : Nat) : ∀ w ∈ Cond.classLink RX11 ik "java/lang/IndexOutOfBoundsException" :: Cond.initialized "java/lang/IndexOutOfBoundsException" :: vx_atS RX11 276 "java/lang/IndexOutOfBoundsException" ["java/lang/RuntimeException", "java/lang/Exception"], vx_ot w = true := by
  have key : ∀ w ∈ Bundle.ownAtoms RX11 276 "java/lang/IndexOutOfBoundsException" ["java/lang/RuntimeException", "java/lang/Exception"], vx_no w = true → vx_ot w = true := by
    simp only [Bundle.ownAtoms, Bundle.throwableAtoms, Bundle.throwableSAtoms, Bundle.chainSAtoms, Bundle.passSAtoms, List.cons_append, List.nil_append, List.append_assoc, List.forall_mem_cons]
    exact ⟨fun _ => rfl, fun _ => rfl, fun _ => rfl, fun _ => rfl, fun _ => rfl, fun _ => rfl, fun _ => rfl, fun _ => rfl, fun _ => rfl, fun _ => rfl, fun _ => rfl, fun _ => rfl, fun _ => rfl, fun _ => rfl, fun _ => rfl, fun _ => rfl, fun _ => rfl, fun _ => rfl, fun _ => rfl, fun _ => rfl, fun h9 => absurd h9 (by decide +kernel), fun _ => rfl, fun h9 => absurd h9 (by decide +kernel), fun _ => rfl, fun _ => rfl, fun _ => rfl, fun _ => rfl, fun _ => rfl, fun _ => rfl, fun _ => rfl, fun _ => rfl, fun _ => rfl, fun _ => rfl, fun _ => rfl, fun _ => rfl, fun _ => rfl, fun _ => rfl, fun _ => rfl, fun _ => rfl, fun _ => rfl, fun _ => rfl, fun _ => rfl, fun _ => rfl, fun _ => rfl, fun _ => rfl, fun _ => rfl, fun _ => rfl, fun _ => rfl, fun _ => rfl, fun _ => rfl, fun _ => rfl, fun _ => rfl, fun h9 => absurd h9 (by decide +kernel), fun h9 => absurd h9 (by decide +kernel), fun _ => rfl, fun _ => rfl, fun _ => rfl, fun _ h => absurd h List.not_mem_nil⟩
  exact List.forall_mem_cons.mpr ⟨rfl, List.forall_mem_cons.mpr ⟨rfl, fun w hw => key w (List.mem_filter.mp hw).1 (List.mem_filter.mp hw).2⟩⟩
theorem dX11_about_0 : decode cX11_about 0 = .ok (.aload_n 0, 1) := by decide +kernel
theorem dX11_about_1 : decode cX11_about 1 = .ok (.iload_n 1, 1) := by decide +kernel
theorem dX11_about_2 : decode cX11_about 2 = .ok (.invokevirtual 141, 3) := by decide +kernel
theorem dX11_add_0 : decode cX11_add 0 = .ok (.aload_n 0, 1) := by decide +kernel
theorem dX11_add_1 : decode cX11_add 1 = .ok (.iload_n 1, 1) := by decide +kernel
theorem dX11_add_2 : decode cX11_add 2 = .ok (.invokevirtual 182, 3) := by decide +kernel
theorem dX11_back_0 : decode cX11_back 0 = .ok (.aload_n 0, 1) := by decide +kernel
theorem dX11_back_1 : decode cX11_back 1 = .ok (.getfield 51, 3) := by decide +kernel
theorem dX11_back_4 : decode cX11_back 4 = .ok (.aload_n 0, 1) := by decide +kernel
theorem dX11_back_5 : decode cX11_back 5 = .ok (.iload_n 1, 1) := by decide +kernel
theorem dX11_back_6 : decode cX11_back 6 = .ok (.invokevirtual 108, 3) := by decide +kernel
theorem dX11_backAt_0 : decode cX11_backAt 0 = .ok (.aload_n 0, 1) := by decide +kernel
theorem dX11_backAt_1 : decode cX11_backAt 1 = .ok (.iload_n 1, 1) := by decide +kernel
theorem dX11_backAt_2 : decode cX11_backAt 2 = .ok (.invokevirtual 108, 3) := by decide +kernel
theorem dX11_count_0 : decode cX11_count 0 = .ok (.aload_n 0, 1) := by decide +kernel
theorem dX11_count_1 : decode cX11_count 1 = .ok (.aload_n 0, 1) := by decide +kernel
theorem dX11_count_2 : decode cX11_count 2 = .ok (.iload_n 1, 1) := by decide +kernel
theorem dX11_count_3 : decode cX11_count 3 = .ok (.invokevirtual 131, 3) := by decide +kernel
theorem dX11_curveAt_0 : decode cX11_curveAt 0 = .ok (.iload_n 1, 1) := by decide +kernel
theorem dX11_curveAt_1 : decode cX11_curveAt 1 = .ok (.ifCond .lt 20, 3) := by decide +kernel
theorem dX11_curveAt_4 : decode cX11_curveAt 4 = .ok (.iload_n 1, 1) := by decide +kernel
theorem dX11_curveAt_5 : decode cX11_curveAt 5 = .ok (.aload_n 0, 1) := by decide +kernel
theorem dX11_curveAt_6 : decode cX11_curveAt 6 = .ok (.getfield 363, 3) := by decide +kernel
theorem dX11_curveAt_9 : decode cX11_curveAt 9 = .ok (.if_icmp .ge 12, 3) := by decide +kernel
theorem dX11_curveAt_21 : decode cX11_curveAt 21 = .ok (.aconst_null, 1) := by decide +kernel
theorem dX11_curveAt_22 : decode cX11_curveAt 22 = .ok (.goto 9, 3) := by decide +kernel
theorem dX11_curveAt_31 : decode cX11_curveAt 31 = .ok (.astore_n 2, 1) := by decide +kernel
theorem dX11_curveAt_32 : decode cX11_curveAt 32 = .ok (.aload_n 2, 1) := by decide +kernel
theorem dX11_curveAt_33 : decode cX11_curveAt 33 = .ok (.ifnonnull 14, 3) := by decide +kernel
theorem dX11_curveAt_36 : decode cX11_curveAt 36 = .ok (.new 272, 3) := by decide +kernel
theorem dX11_curveAt_39 : decode cX11_curveAt 39 = .ok (.dup, 1) := by decide +kernel
theorem dX11_curveAt_40 : decode cX11_curveAt 40 = .ok (.ldc_w 369, 3) := by decide +kernel
theorem dX11_curveAt_43 : decode cX11_curveAt 43 = .ok (.invokespecial 276, 3) := by decide +kernel
theorem dX11_curveAt_46 : decode cX11_curveAt 46 = .ok (.athrow, 1) := by decide +kernel
theorem dX11_far_0 : decode cX11_far 0 = .ok (.aload_n 0, 1) := by decide +kernel
theorem dX11_far_1 : decode cX11_far 1 = .ok (.iload_n 1, 1) := by decide +kernel
theorem dX11_far_2 : decode cX11_far 2 = .ok (.invokevirtual 141, 3) := by decide +kernel
theorem dX11_found_0 : decode cX11_found 0 = .ok (.iload_n 1, 1) := by decide +kernel
theorem dX11_found_1 : decode cX11_found 1 = .ok (.ifCond .lt 14, 3) := by decide +kernel
theorem dX11_found_4 : decode cX11_found 4 = .ok (.iload_n 1, 1) := by decide +kernel
theorem dX11_found_5 : decode cX11_found 5 = .ok (.aload_n 0, 1) := by decide +kernel
theorem dX11_found_6 : decode cX11_found 6 = .ok (.getfield 58, 3) := by decide +kernel
theorem dX11_found_9 : decode cX11_found 9 = .ok (.getfield 271, 3) := by decide +kernel
theorem dX11_found_12 : decode cX11_found 12 = .ok (.if_icmp .lt 14, 3) := by decide +kernel
theorem dX11_found_15 : decode cX11_found 15 = .ok (.new 272, 3) := by decide +kernel
theorem dX11_found_18 : decode cX11_found 18 = .ok (.dup, 1) := by decide +kernel
theorem dX11_found_19 : decode cX11_found 19 = .ok (.ldc_w 274, 3) := by decide +kernel
theorem dX11_found_22 : decode cX11_found 22 = .ok (.invokespecial 276, 3) := by decide +kernel
theorem dX11_found_25 : decode cX11_found 25 = .ok (.athrow, 1) := by decide +kernel
theorem dX11_group_0 : decode cX11_group 0 = .ok (.aload_n 0, 1) := by decide +kernel
theorem dX11_group_1 : decode cX11_group 1 = .ok (.iload_n 1, 1) := by decide +kernel
theorem dX11_group_2 : decode cX11_group 2 = .ok (.invokevirtual 291, 3) := by decide +kernel
theorem dX11_led_0 : decode cX11_led 0 = .ok (.aload_n 0, 1) := by decide +kernel
theorem dX11_led_1 : decode cX11_led 1 = .ok (.iload_n 1, 1) := by decide +kernel
theorem dX11_led_2 : decode cX11_led 2 = .ok (.invokevirtual 182, 3) := by decide +kernel
theorem dX11_list_0 : decode cX11_list 0 = .ok (.aload_n 0, 1) := by decide +kernel
theorem dX11_list_1 : decode cX11_list 1 = .ok (.iload_n 1, 1) := by decide +kernel
theorem dX11_list_2 : decode cX11_list 2 = .ok (.invokevirtual 291, 3) := by decide +kernel
theorem dX11_listedCurve_0 : decode cX11_listedCurve 0 = .ok (.aload_n 0, 1) := by decide +kernel
theorem dX11_listedCurve_1 : decode cX11_listedCurve 1 = .ok (.iload_n 1, 1) := by decide +kernel
theorem dX11_listedCurve_2 : decode cX11_listedCurve 2 = .ok (.invokevirtual 131, 3) := by decide +kernel
theorem dX11_mirror_0 : decode cX11_mirror 0 = .ok (.aload_n 0, 1) := by decide +kernel
theorem dX11_mirror_1 : decode cX11_mirror 1 = .ok (.iload_n 1, 1) := by decide +kernel
theorem dX11_mirror_2 : decode cX11_mirror 2 = .ok (.invokevirtual 182, 3) := by decide +kernel
theorem dX11_order_0 : decode cX11_order 0 = .ok (.aload_n 0, 1) := by decide +kernel
theorem dX11_order_1 : decode cX11_order 1 = .ok (.iload_n 1, 1) := by decide +kernel
theorem dX11_order_2 : decode cX11_order 2 = .ok (.invokevirtual 182, 3) := by decide +kernel
theorem dX11_over_0 : decode cX11_over 0 = .ok (.aload_n 0, 1) := by decide +kernel
theorem dX11_over_1 : decode cX11_over 1 = .ok (.iload_n 1, 1) := by decide +kernel
theorem dX11_over_2 : decode cX11_over 2 = .ok (.invokevirtual 131, 3) := by decide +kernel
theorem dX11_pair_0 : decode cX11_pair 0 = .ok (.aload_n 0, 1) := by decide +kernel
theorem dX11_pair_1 : decode cX11_pair 1 = .ok (.iload_n 1, 1) := by decide +kernel
theorem dX11_pair_2 : decode cX11_pair 2 = .ok (.invokevirtual 182, 3) := by decide +kernel
theorem dX11_point_0 : decode cX11_point 0 = .ok (.aload_n 0, 1) := by decide +kernel
theorem dX11_point_1 : decode cX11_point 1 = .ok (.iload_n 1, 1) := by decide +kernel
theorem dX11_point_2 : decode cX11_point 2 = .ok (.invokevirtual 141, 3) := by decide +kernel
theorem dX11_polynomial_0 : decode cX11_polynomial 0 = .ok (.aload_n 0, 1) := by decide +kernel
theorem dX11_polynomial_1 : decode cX11_polynomial 1 = .ok (.iload_n 1, 1) := by decide +kernel
theorem dX11_polynomial_2 : decode cX11_polynomial 2 = .ok (.invokevirtual 291, 3) := by decide +kernel
theorem dX11_print_0 : decode cX11_print 0 = .ok (.aload_n 0, 1) := by decide +kernel
theorem dX11_print_1 : decode cX11_print 1 = .ok (.iload_n 1, 1) := by decide +kernel
theorem dX11_print_2 : decode cX11_print 2 = .ok (.invokevirtual 182, 3) := by decide +kernel
theorem dX11_rest_0 : decode cX11_rest 0 = .ok (.aload_n 0, 1) := by decide +kernel
theorem dX11_rest_1 : decode cX11_rest 1 = .ok (.iload_n 1, 1) := by decide +kernel
theorem dX11_rest_2 : decode cX11_rest 2 = .ok (.invokevirtual 108, 3) := by decide +kernel
theorem dX11_restCurve_0 : decode cX11_restCurve 0 = .ok (.aload_n 0, 1) := by decide +kernel
theorem dX11_restCurve_1 : decode cX11_restCurve 1 = .ok (.iload_n 1, 1) := by decide +kernel
theorem dX11_restCurve_2 : decode cX11_restCurve 2 = .ok (.invokevirtual 141, 3) := by decide +kernel
theorem dX11_search_0 : decode cX11_search 0 = .ok (.aload_n 0, 1) := by decide +kernel
theorem dX11_search_1 : decode cX11_search 1 = .ok (.iload_n 1, 1) := by decide +kernel
theorem dX11_search_2 : decode cX11_search 2 = .ok (.invokevirtual 108, 3) := by decide +kernel
theorem dX11_spotAt_0 : decode cX11_spotAt 0 = .ok (.iload_n 1, 1) := by decide +kernel
theorem dX11_spotAt_1 : decode cX11_spotAt 1 = .ok (.ifCond .lt 20, 3) := by decide +kernel
theorem dX11_spotAt_4 : decode cX11_spotAt 4 = .ok (.iload_n 1, 1) := by decide +kernel
theorem dX11_spotAt_5 : decode cX11_spotAt 5 = .ok (.aload_n 0, 1) := by decide +kernel
theorem dX11_spotAt_6 : decode cX11_spotAt 6 = .ok (.getfield 366, 3) := by decide +kernel
theorem dX11_spotAt_9 : decode cX11_spotAt 9 = .ok (.if_icmp .ge 12, 3) := by decide +kernel
theorem dX11_spotAt_21 : decode cX11_spotAt 21 = .ok (.aconst_null, 1) := by decide +kernel
theorem dX11_spotAt_22 : decode cX11_spotAt 22 = .ok (.goto 9, 3) := by decide +kernel
theorem dX11_spotAt_31 : decode cX11_spotAt 31 = .ok (.astore_n 2, 1) := by decide +kernel
theorem dX11_spotAt_32 : decode cX11_spotAt 32 = .ok (.aload_n 2, 1) := by decide +kernel
theorem dX11_spotAt_33 : decode cX11_spotAt 33 = .ok (.ifnonnull 14, 3) := by decide +kernel
theorem dX11_spotAt_36 : decode cX11_spotAt 36 = .ok (.new 272, 3) := by decide +kernel
theorem dX11_spotAt_39 : decode cX11_spotAt 39 = .ok (.dup, 1) := by decide +kernel
theorem dX11_spotAt_40 : decode cX11_spotAt 40 = .ok (.ldc_w 377, 3) := by decide +kernel
theorem dX11_spotAt_43 : decode cX11_spotAt 43 = .ok (.invokespecial 276, 3) := by decide +kernel
theorem dX11_spotAt_46 : decode cX11_spotAt 46 = .ok (.athrow, 1) := by decide +kernel
theorem dX11_through_0 : decode cX11_through 0 = .ok (.aload_n 0, 1) := by decide +kernel
theorem dX11_through_1 : decode cX11_through 1 = .ok (.iload_n 1, 1) := by decide +kernel
theorem dX11_through_2 : decode cX11_through 2 = .ok (.invokevirtual 182, 3) := by decide +kernel
theorem dX11_times_0 : decode cX11_times 0 = .ok (.aload_n 0, 1) := by decide +kernel
theorem dX11_times_1 : decode cX11_times 1 = .ok (.iload_n 1, 1) := by decide +kernel
theorem dX11_times_2 : decode cX11_times 2 = .ok (.invokevirtual 182, 3) := by decide +kernel
theorem dX11_told_0 : decode cX11_told 0 = .ok (.aload_n 0, 1) := by decide +kernel
theorem dX11_told_1 : decode cX11_told 1 = .ok (.iload_n 1, 1) := by decide +kernel
theorem dX11_told_2 : decode cX11_told 2 = .ok (.invokevirtual 182, 3) := by decide +kernel
theorem dX11_turned_0 : decode cX11_turned 0 = .ok (.aload_n 0, 1) := by decide +kernel
theorem dX11_turned_1 : decode cX11_turned 1 = .ok (.iload_n 1, 1) := by decide +kernel
theorem dX11_turned_2 : decode cX11_turned 2 = .ok (.invokevirtual 131, 3) := by decide +kernel
theorem dX11_wholeCurve_0 : decode cX11_wholeCurve 0 = .ok (.aload_n 0, 1) := by decide +kernel
theorem dX11_wholeCurve_1 : decode cX11_wholeCurve 1 = .ok (.iload_n 1, 1) := by decide +kernel
theorem dX11_wholeCurve_2 : decode cX11_wholeCurve 2 = .ok (.invokevirtual 141, 3) := by decide +kernel
def wk_X11_curveAt : List Cond := .code yX11_curveAt cX11_curveAt 3 (some (.object "CubicBench$Curve")) :: wU
set_option maxHeartbeats 4000000 in
set_option maxRecDepth 100000 in
theorem t_X11_curveAt (l : Launch) (hst : l.stackTraces = false) (dC : Nat → ClassId) (dI : Nat → Nat → Nat) (h0 sz : Nat) (fs : List Value) (c0 : Int32) (hf : xF fs) : vx_Met l yX11_curveAt wk_X11_curveAt ({ frames := 7, cells := 1, slots := 6, locals := 130 } : Room) (tQ dC dI [(h0, .inr (11, fs))] sz [.ref h0, .int c0]) (fun _ _ _ _ => False) (px_X nIOO sz) 1 6 (nw sz) := by
  refine vx_ofW (cc := cX11_curveAt) (maxL := 3) (ret := (some (.object "CubicBench$Curve"))) (by decide) rfl ?_
  intro p e s m args below meth c s₁ B hml htb hv
  obtain ⟨rfl, hsz, hP, hK, hev, hdv, hZ⟩ := hv
  have hx := B.exec
  have hb := B.bytes
  have hr := B.returns
  have hts := atoms_spec (ws := wk_X11_curveAt) B.pre
  have hu : ∀ w ∈ wU, w.before ([.ref h0, .int c0] : List Value).toArray s = true := fun w h => hts w (List.mem_cons_of_mem _ h)
  have hown : s.vm.findClass RX11 = some m.cls := findClass_of_methodNamed B.named
  have hlocks := B.notSynchronized
  subst hsz
  have hA : ∀ q : Nat, s.heap.size ≤ q → nw s.heap.size q := fun _ h => h
  have hS : va_S (nw s.heap.size) s.heap s.heap [] := va_S.rf
  have hl := lv_entry ([.ref h0, .int c0]) (n := 3) (Nat.le_of_ble_eq_true rfl)
  rw [lg_entry_eq]
  generalize (lg_sl ([.ref h0, .int c0]) ++ List.replicate (3 - (lg_sl ([.ref h0, .int c0])).length) Slot.unset).toArray = ls at hl ⊢
  have hl : lv_has ls 3 [(0, .ref h0), (1, .int c0)] := hl
  refine lv_iload_n hx hb dX11_curveAt_0 rfl (lv_at hl 1 rfl) ?_
  refine lv_if_lt (tgt := 21) hx hb dX11_curveAt_1 (by decide) (fun c1 => ?_) (fun c1 => ?_)
  · skip
    refine lv_null hx hb dX11_curveAt_21 ?_
    refine lv_goto (tgt := 31) hx hb dX11_curveAt_22 (by decide) ?_
    refine lv_astore_nN (lv' := [(2, .null), (0, .ref h0), (1, .int c0)]) hx hb dX11_curveAt_31 rfl hl (by decide) rfl (fun ls hl => ?_)
    refine lv_aload_nN hx hb dX11_curveAt_32 rfl (lv_at hl 0 rfl) ?_
    refine lv_ifnonnullN hx hb dX11_curveAt_33 ?_
    obtain ⟨sa, hsa⟩ := hev.2.2.2.2.1
    exact vx_throwSW (A := nw s.heap.size) (names := ["java/lang/RuntimeException", "java/lang/Exception"]) (cls := nIOO) hx hb hst hown (by decide) (by decide) (hu _ u424) (hu _ u425) hsa (at_IOO hu hev hdv) (ot_IOO _) hZ.1 hZ.2 hS (hl.1.trans hml.symm) dX11_curveAt_36 dX11_curveAt_39 dX11_curveAt_40 dX11_curveAt_43 dX11_curveAt_46 (fun x h => (htb x h).elim) (by decide) (Nat.le_of_ble_eq_true rfl) (Nat.le_of_ble_eq_true rfl) (Nat.le_of_ble_eq_true rfl) hlocks (fun t hvm hz hk => ⟨rfl, hz, fun q h1 _ => hk q h1⟩) hS.2.2 (Nat.le_of_ble_eq_true rfl) (Nat.le_of_ble_eq_true rfl)
  · skip
    refine lv_iload_n hx hb dX11_curveAt_4 rfl (lv_at hl 1 rfl) ?_
    refine lv_aload_n hx hb dX11_curveAt_5 rfl (lv_at hl 0 rfl) ?_
    refine va_get (D := (dC, dI)) (ci := 11) (v := .int 0) (C := RX11) (T := TX11) (N := 16) hx hb hu iX11 hown hK hP 0 rfl rfl 1 (by decide) (hu _ u426) (fun _ h9 => h9) hf.1 dX11_curveAt_6 ?_
    refine lv_icmp_ge (tgt := 21) hx hb dX11_curveAt_9 (by decide) (fun _ => ?_) (fun h9 => absurd (Int32.not_lt.mp c1) h9)
    refine lv_null hx hb dX11_curveAt_21 ?_
    refine lv_goto (tgt := 31) hx hb dX11_curveAt_22 (by decide) ?_
    refine lv_astore_nN (lv' := [(2, .null), (0, .ref h0), (1, .int c0)]) hx hb dX11_curveAt_31 rfl hl (by decide) rfl (fun ls hl => ?_)
    refine lv_aload_nN hx hb dX11_curveAt_32 rfl (lv_at hl 0 rfl) ?_
    refine lv_ifnonnullN hx hb dX11_curveAt_33 ?_
    obtain ⟨sa, hsa⟩ := hev.2.2.2.2.1
    exact vx_throwSW (A := nw s.heap.size) (names := ["java/lang/RuntimeException", "java/lang/Exception"]) (cls := nIOO) hx hb hst hown (by decide) (by decide) (hu _ u424) (hu _ u425) hsa (at_IOO hu hev hdv) (ot_IOO _) hZ.1 hZ.2 hS (hl.1.trans hml.symm) dX11_curveAt_36 dX11_curveAt_39 dX11_curveAt_40 dX11_curveAt_43 dX11_curveAt_46 (fun x h => (htb x h).elim) (by decide) (Nat.le_of_ble_eq_true rfl) (Nat.le_of_ble_eq_true rfl) (Nat.le_of_ble_eq_true rfl) hlocks (fun t hvm hz hk => ⟨rfl, hz, fun q h1 _ => hk q h1⟩) hS.2.2 (Nat.le_of_ble_eq_true rfl) (Nat.le_of_ble_eq_true rfl)
def wk_X11_spotAt : List Cond := .code yX11_spotAt cX11_spotAt 3 (some (.object "CubicBench$Spot")) :: wU
set_option maxHeartbeats 4000000 in
set_option maxRecDepth 100000 in
theorem t_X11_spotAt (l : Launch) (hst : l.stackTraces = false) (dC : Nat → ClassId) (dI : Nat → Nat → Nat) (h0 sz : Nat) (fs : List Value) (c0 : Int32) (hf : xF fs) : vx_Met l yX11_spotAt wk_X11_spotAt ({ frames := 7, cells := 1, slots := 6, locals := 130 } : Room) (tQ dC dI [(h0, .inr (11, fs))] sz [.ref h0, .int c0]) (fun _ _ _ _ => False) (px_X nIOO sz) 1 6 (nw sz) := by
  refine vx_ofW (cc := cX11_spotAt) (maxL := 3) (ret := (some (.object "CubicBench$Spot"))) (by decide) rfl ?_
  intro p e s m args below meth c s₁ B hml htb hv
  obtain ⟨rfl, hsz, hP, hK, hev, hdv, hZ⟩ := hv
  have hx := B.exec
  have hb := B.bytes
  have hr := B.returns
  have hts := atoms_spec (ws := wk_X11_spotAt) B.pre
  have hu : ∀ w ∈ wU, w.before ([.ref h0, .int c0] : List Value).toArray s = true := fun w h => hts w (List.mem_cons_of_mem _ h)
  have hown : s.vm.findClass RX11 = some m.cls := findClass_of_methodNamed B.named
  have hlocks := B.notSynchronized
  subst hsz
  have hA : ∀ q : Nat, s.heap.size ≤ q → nw s.heap.size q := fun _ h => h
  have hS : va_S (nw s.heap.size) s.heap s.heap [] := va_S.rf
  have hl := lv_entry ([.ref h0, .int c0]) (n := 3) (Nat.le_of_ble_eq_true rfl)
  rw [lg_entry_eq]
  generalize (lg_sl ([.ref h0, .int c0]) ++ List.replicate (3 - (lg_sl ([.ref h0, .int c0])).length) Slot.unset).toArray = ls at hl ⊢
  have hl : lv_has ls 3 [(0, .ref h0), (1, .int c0)] := hl
  refine lv_iload_n hx hb dX11_spotAt_0 rfl (lv_at hl 1 rfl) ?_
  refine lv_if_lt (tgt := 21) hx hb dX11_spotAt_1 (by decide) (fun c1 => ?_) (fun c1 => ?_)
  · skip
    refine lv_null hx hb dX11_spotAt_21 ?_
    refine lv_goto (tgt := 31) hx hb dX11_spotAt_22 (by decide) ?_
    refine lv_astore_nN (lv' := [(2, .null), (0, .ref h0), (1, .int c0)]) hx hb dX11_spotAt_31 rfl hl (by decide) rfl (fun ls hl => ?_)
    refine lv_aload_nN hx hb dX11_spotAt_32 rfl (lv_at hl 0 rfl) ?_
    refine lv_ifnonnullN hx hb dX11_spotAt_33 ?_
    obtain ⟨sa, hsa⟩ := hev.2.2.2.2.2.1
    exact vx_throwSW (A := nw s.heap.size) (names := ["java/lang/RuntimeException", "java/lang/Exception"]) (cls := nIOO) hx hb hst hown (by decide) (by decide) (hu _ u424) (hu _ u425) hsa (at_IOO hu hev hdv) (ot_IOO _) hZ.1 hZ.2 hS (hl.1.trans hml.symm) dX11_spotAt_36 dX11_spotAt_39 dX11_spotAt_40 dX11_spotAt_43 dX11_spotAt_46 (fun x h => (htb x h).elim) (by decide) (Nat.le_of_ble_eq_true rfl) (Nat.le_of_ble_eq_true rfl) (Nat.le_of_ble_eq_true rfl) hlocks (fun t hvm hz hk => ⟨rfl, hz, fun q h1 _ => hk q h1⟩) hS.2.2 (Nat.le_of_ble_eq_true rfl) (Nat.le_of_ble_eq_true rfl)
  · skip
    refine lv_iload_n hx hb dX11_spotAt_4 rfl (lv_at hl 1 rfl) ?_
    refine lv_aload_n hx hb dX11_spotAt_5 rfl (lv_at hl 0 rfl) ?_
    refine va_get (D := (dC, dI)) (ci := 11) (v := .int 0) (C := RX11) (T := TX11) (N := 16) hx hb hu iX11 hown hK hP 0 rfl rfl 3 (by decide) (hu _ u427) (fun _ h9 => h9) hf.2.1 dX11_spotAt_6 ?_
    refine lv_icmp_ge (tgt := 21) hx hb dX11_spotAt_9 (by decide) (fun _ => ?_) (fun h9 => absurd (Int32.not_lt.mp c1) h9)
    refine lv_null hx hb dX11_spotAt_21 ?_
    refine lv_goto (tgt := 31) hx hb dX11_spotAt_22 (by decide) ?_
    refine lv_astore_nN (lv' := [(2, .null), (0, .ref h0), (1, .int c0)]) hx hb dX11_spotAt_31 rfl hl (by decide) rfl (fun ls hl => ?_)
    refine lv_aload_nN hx hb dX11_spotAt_32 rfl (lv_at hl 0 rfl) ?_
    refine lv_ifnonnullN hx hb dX11_spotAt_33 ?_
    obtain ⟨sa, hsa⟩ := hev.2.2.2.2.2.1
    exact vx_throwSW (A := nw s.heap.size) (names := ["java/lang/RuntimeException", "java/lang/Exception"]) (cls := nIOO) hx hb hst hown (by decide) (by decide) (hu _ u424) (hu _ u425) hsa (at_IOO hu hev hdv) (ot_IOO _) hZ.1 hZ.2 hS (hl.1.trans hml.symm) dX11_spotAt_36 dX11_spotAt_39 dX11_spotAt_40 dX11_spotAt_43 dX11_spotAt_46 (fun x h => (htb x h).elim) (by decide) (Nat.le_of_ble_eq_true rfl) (Nat.le_of_ble_eq_true rfl) (Nat.le_of_ble_eq_true rfl) hlocks (fun t hvm hz hk => ⟨rfl, hz, fun q h1 _ => hk q h1⟩) hS.2.2 (Nat.le_of_ble_eq_true rfl) (Nat.le_of_ble_eq_true rfl)
def wk_X11_found : List Cond := .code yX11_found cX11_found 3 (some .long) :: wU
set_option maxHeartbeats 4000000 in
set_option maxRecDepth 100000 in
theorem t_X11_found (l : Launch) (hst : l.stackTraces = false) (dC : Nat → ClassId) (dI : Nat → Nat → Nat) (h0 sz : Nat) (fs : List Value) (f8 : List Value) (q8 : Nat) (c0 d0 : Int32) (hf : xF fs) (hq8 : fs[10]? = some (.ref q8)) (hf8 : f8[3]? = some (.int 0)) : vx_Met l yX11_found wk_X11_found ({ frames := 7, cells := 1, slots := 6, locals := 130 } : Room) (tQ dC dI [(h0, .inr (11, fs)), (q8, .inr (8, f8))] sz [.ref h0, .int c0, .int d0]) (fun _ _ _ _ => False) (px_X nIOO sz) 1 6 (nw sz) := by
  refine vx_ofW (cc := cX11_found) (maxL := 3) (ret := (some .long)) (by decide) rfl ?_
  intro p e s m args below meth c s₁ B hml htb hv
  obtain ⟨rfl, hsz, hP, hK, hev, hdv, hZ⟩ := hv
  have hx := B.exec
  have hb := B.bytes
  have hr := B.returns
  have hts := atoms_spec (ws := wk_X11_found) B.pre
  have hu : ∀ w ∈ wU, w.before ([.ref h0, .int c0, .int d0] : List Value).toArray s = true := fun w h => hts w (List.mem_cons_of_mem _ h)
  have hown : s.vm.findClass RX11 = some m.cls := findClass_of_methodNamed B.named
  have hlocks := B.notSynchronized
  subst hsz
  have hA : ∀ q : Nat, s.heap.size ≤ q → nw s.heap.size q := fun _ h => h
  have hS : va_S (nw s.heap.size) s.heap s.heap [] := va_S.rf
  have hl := lv_entry ([.ref h0, .int c0, .int d0]) (n := 3) (Nat.le_of_ble_eq_true rfl)
  rw [lg_entry_eq]
  generalize (lg_sl ([.ref h0, .int c0, .int d0]) ++ List.replicate (3 - (lg_sl ([.ref h0, .int c0, .int d0])).length) Slot.unset).toArray = ls at hl ⊢
  have hl : lv_has ls 3 [(0, .ref h0), (1, .int c0), (2, .int d0)] := hl
  refine lv_iload_n hx hb dX11_found_0 rfl (lv_at hl 1 rfl) ?_
  refine lv_if_lt (tgt := 15) hx hb dX11_found_1 (by decide) (fun c1 => ?_) (fun c1 => ?_)
  · skip
    obtain ⟨sa, hsa⟩ := hev.2.2.2.2.2.2.1
    exact vx_throwSW (A := nw s.heap.size) (names := ["java/lang/RuntimeException", "java/lang/Exception"]) (cls := nIOO) hx hb hst hown (by decide) (by decide) (hu _ u424) (hu _ u425) hsa (at_IOO hu hev hdv) (ot_IOO _) hZ.1 hZ.2 hS (hl.1.trans hml.symm) dX11_found_15 dX11_found_18 dX11_found_19 dX11_found_22 dX11_found_25 (fun x h => (htb x h).elim) (by decide) (Nat.le_of_ble_eq_true rfl) (Nat.le_of_ble_eq_true rfl) (Nat.le_of_ble_eq_true rfl) hlocks (fun t hvm hz hk => ⟨rfl, hz, fun q h1 _ => hk q h1⟩) hS.2.2 (Nat.le_of_ble_eq_true rfl) (Nat.le_of_ble_eq_true rfl)
  · skip
    refine lv_iload_n hx hb dX11_found_4 rfl (lv_at hl 1 rfl) ?_
    refine lv_aload_n hx hb dX11_found_5 rfl (lv_at hl 0 rfl) ?_
    refine va_get (D := (dC, dI)) (ci := 11) (v := .ref q8) (C := RX11) (T := TX11) (N := 16) hx hb hu iX11 hown hK hP 0 rfl rfl 10 (by decide) (hu _ u130) (fun _ h9 => h9) hq8 dX11_found_6 ?_
    refine va_get (D := (dC, dI)) (ci := 8) (v := .int 0) (C := RX8) (T := TX8) (N := 4) hx hb hu iX8 hown hK hP 1 rfl rfl 3 (by decide) (hu _ u428) (fun _ h9 => h9) hf8 dX11_found_9 ?_
    refine lv_icmp_lt (tgt := 26) hx hb dX11_found_12 (by decide) (fun h9 => absurd h9 c1) (fun _ => ?_)
    obtain ⟨sa, hsa⟩ := hev.2.2.2.2.2.2.1
    exact vx_throwSW (A := nw s.heap.size) (names := ["java/lang/RuntimeException", "java/lang/Exception"]) (cls := nIOO) hx hb hst hown (by decide) (by decide) (hu _ u424) (hu _ u425) hsa (at_IOO hu hev hdv) (ot_IOO _) hZ.1 hZ.2 hS (hl.1.trans hml.symm) dX11_found_15 dX11_found_18 dX11_found_19 dX11_found_22 dX11_found_25 (fun x h => (htb x h).elim) (by decide) (Nat.le_of_ble_eq_true rfl) (Nat.le_of_ble_eq_true rfl) (Nat.le_of_ble_eq_true rfl) hlocks (fun t hvm hz hk => ⟨rfl, hz, fun q h1 _ => hk q h1⟩) hS.2.2 (Nat.le_of_ble_eq_true rfl) (Nat.le_of_ble_eq_true rfl)
def wk_X11_wholeCurve : List Cond := .code yX11_wholeCurve cX11_wholeCurve 3 (some (.object "CubicBench$Curve")) :: wU
set_option maxHeartbeats 4000000 in
set_option maxRecDepth 100000 in
theorem t_X11_wholeCurve (l : Launch) (hst : l.stackTraces = false) (dC : Nat → ClassId) (dI : Nat → Nat → Nat) (h0 sz : Nat) (fs : List Value) (c0 : Int32) (hf : xF fs) : vx_Met l yX11_wholeCurve wk_X11_wholeCurve ({ frames := 8, cells := 1, slots := 6, locals := 152 } : Room) (tQ dC dI [(h0, .inr (11, fs))] sz [.ref h0, .int c0]) (fun _ _ _ _ => False) (px_X nIOO sz) 1 6 (nw sz) := by
  refine vx_ofW (cc := cX11_wholeCurve) (maxL := 3) (ret := (some (.object "CubicBench$Curve"))) (by decide) rfl ?_
  intro p e s m args below meth c s₁ B hml htb hv
  obtain ⟨rfl, hsz, hP, hK, hev, hdv, hZ⟩ := hv
  have hx := B.exec
  have hb := B.bytes
  have hr := B.returns
  have hts := atoms_spec (ws := wk_X11_wholeCurve) B.pre
  have hu : ∀ w ∈ wU, w.before ([.ref h0, .int c0] : List Value).toArray s = true := fun w h => hts w (List.mem_cons_of_mem _ h)
  have hown : s.vm.findClass RX11 = some m.cls := findClass_of_methodNamed B.named
  have hlocks := B.notSynchronized
  subst hsz
  have hA : ∀ q : Nat, s.heap.size ≤ q → nw s.heap.size q := fun _ h => h
  have hS : va_S (nw s.heap.size) s.heap s.heap [] := va_S.rf
  have hl := lv_entry ([.ref h0, .int c0]) (n := 3) (Nat.le_of_ble_eq_true rfl)
  rw [lg_entry_eq]
  generalize (lg_sl ([.ref h0, .int c0]) ++ List.replicate (3 - (lg_sl ([.ref h0, .int c0])).length) Slot.unset).toArray = ls at hl ⊢
  have hl : lv_has ls 3 [(0, .ref h0), (1, .int c0)] := hl
  refine lv_aload_n hx hb dX11_wholeCurve_0 rfl (lv_at hl 0 rfl) ?_
  refine lv_iload_n hx hb dX11_wholeCurve_1 rfl (lv_at hl 1 rfl) ?_
  refine px_call (vx_runV (As := [.int c0]) (rest := []) ⟨hx, hb, hml, hown, hu⟩ (t_X11_curveAt l hst dC dI h0 _ fs (c0) hf) (cwV 1 hu (gV u429 u430 u431 u432 u433) rfl rfl rfl (by decide +kernel) ⟨(Nat.le_of_ble_eq_true rfl), (Nat.le_of_ble_eq_true rfl)⟩) ⟨tQ_blind, va_recv hK hP (ci := 11) (q0 := 0) rfl rfl, tQ_at hP hK hev hdv hZ⟩ rfl rfl hl.1 rfl (lv_room (Nat.le_of_ble_eq_true rfl)) dX11_wholeCurve_2 ⟨(Nat.le_of_ble_eq_true rfl), (Nat.le_of_ble_eq_true rfl)⟩) rfl hS hA (fun ce q9 H1 locs1 hz1 hk1 hS hce hcv hcl => ?_)
  exact vx_out (fun x h => (htb x h).elim) hlocks hce hcv hcl (fun t ht hvm => ⟨rfl, by rw [ht]; exact hz1, fun q h1 _ => by rw [ht]; exact hk1 q h1⟩) hS.2.2 (Nat.le_of_ble_eq_true rfl) (Nat.le_of_ble_eq_true rfl)
def wk_X11_restCurve : List Cond := .code yX11_restCurve cX11_restCurve 3 (some (.object "CubicBench$Curve")) :: wU
set_option maxHeartbeats 4000000 in
set_option maxRecDepth 100000 in
theorem t_X11_restCurve (l : Launch) (hst : l.stackTraces = false) (dC : Nat → ClassId) (dI : Nat → Nat → Nat) (h0 sz : Nat) (fs : List Value) (c0 : Int32) (hf : xF fs) : vx_Met l yX11_restCurve wk_X11_restCurve ({ frames := 8, cells := 1, slots := 6, locals := 152 } : Room) (tQ dC dI [(h0, .inr (11, fs))] sz [.ref h0, .int c0]) (fun _ _ _ _ => False) (px_X nIOO sz) 1 6 (nw sz) := by
  refine vx_ofW (cc := cX11_restCurve) (maxL := 3) (ret := (some (.object "CubicBench$Curve"))) (by decide) rfl ?_
  intro p e s m args below meth c s₁ B hml htb hv
  obtain ⟨rfl, hsz, hP, hK, hev, hdv, hZ⟩ := hv
  have hx := B.exec
  have hb := B.bytes
  have hr := B.returns
  have hts := atoms_spec (ws := wk_X11_restCurve) B.pre
  have hu : ∀ w ∈ wU, w.before ([.ref h0, .int c0] : List Value).toArray s = true := fun w h => hts w (List.mem_cons_of_mem _ h)
  have hown : s.vm.findClass RX11 = some m.cls := findClass_of_methodNamed B.named
  have hlocks := B.notSynchronized
  subst hsz
  have hA : ∀ q : Nat, s.heap.size ≤ q → nw s.heap.size q := fun _ h => h
  have hS : va_S (nw s.heap.size) s.heap s.heap [] := va_S.rf
  have hl := lv_entry ([.ref h0, .int c0]) (n := 3) (Nat.le_of_ble_eq_true rfl)
  rw [lg_entry_eq]
  generalize (lg_sl ([.ref h0, .int c0]) ++ List.replicate (3 - (lg_sl ([.ref h0, .int c0])).length) Slot.unset).toArray = ls at hl ⊢
  have hl : lv_has ls 3 [(0, .ref h0), (1, .int c0)] := hl
  refine lv_aload_n hx hb dX11_restCurve_0 rfl (lv_at hl 0 rfl) ?_
  refine lv_iload_n hx hb dX11_restCurve_1 rfl (lv_at hl 1 rfl) ?_
  refine px_call (vx_runV (As := [.int c0]) (rest := []) ⟨hx, hb, hml, hown, hu⟩ (t_X11_curveAt l hst dC dI h0 _ fs (c0) hf) (cwV 1 hu (gV u429 u430 u431 u432 u433) rfl rfl rfl (by decide +kernel) ⟨(Nat.le_of_ble_eq_true rfl), (Nat.le_of_ble_eq_true rfl)⟩) ⟨tQ_blind, va_recv hK hP (ci := 11) (q0 := 0) rfl rfl, tQ_at hP hK hev hdv hZ⟩ rfl rfl hl.1 rfl (lv_room (Nat.le_of_ble_eq_true rfl)) dX11_restCurve_2 ⟨(Nat.le_of_ble_eq_true rfl), (Nat.le_of_ble_eq_true rfl)⟩) rfl hS hA (fun ce q9 H1 locs1 hz1 hk1 hS hce hcv hcl => ?_)
  exact vx_out (fun x h => (htb x h).elim) hlocks hce hcv hcl (fun t ht hvm => ⟨rfl, by rw [ht]; exact hz1, fun q h1 _ => by rw [ht]; exact hk1 q h1⟩) hS.2.2 (Nat.le_of_ble_eq_true rfl) (Nat.le_of_ble_eq_true rfl)
def wk_X11_listedCurve : List Cond := .code yX11_listedCurve cX11_listedCurve 3 (some (.object "CubicBench$Curve")) :: wU
set_option maxHeartbeats 4000000 in
set_option maxRecDepth 100000 in
theorem t_X11_listedCurve (l : Launch) (hst : l.stackTraces = false) (dC : Nat → ClassId) (dI : Nat → Nat → Nat) (h0 sz : Nat) (fs : List Value) (c0 : Int32) (hf : xF fs) : vx_Met l yX11_listedCurve wk_X11_listedCurve ({ frames := 9, cells := 1, slots := 6, locals := 174 } : Room) (tQ dC dI [(h0, .inr (11, fs))] sz [.ref h0, .int c0]) (fun _ _ _ _ => False) (px_X nIOO sz) 1 6 (nw sz) := by
  refine vx_ofW (cc := cX11_listedCurve) (maxL := 3) (ret := (some (.object "CubicBench$Curve"))) (by decide) rfl ?_
  intro p e s m args below meth c s₁ B hml htb hv
  obtain ⟨rfl, hsz, hP, hK, hev, hdv, hZ⟩ := hv
  have hx := B.exec
  have hb := B.bytes
  have hr := B.returns
  have hts := atoms_spec (ws := wk_X11_listedCurve) B.pre
  have hu : ∀ w ∈ wU, w.before ([.ref h0, .int c0] : List Value).toArray s = true := fun w h => hts w (List.mem_cons_of_mem _ h)
  have hown : s.vm.findClass RX11 = some m.cls := findClass_of_methodNamed B.named
  have hlocks := B.notSynchronized
  subst hsz
  have hA : ∀ q : Nat, s.heap.size ≤ q → nw s.heap.size q := fun _ h => h
  have hS : va_S (nw s.heap.size) s.heap s.heap [] := va_S.rf
  have hl := lv_entry ([.ref h0, .int c0]) (n := 3) (Nat.le_of_ble_eq_true rfl)
  rw [lg_entry_eq]
  generalize (lg_sl ([.ref h0, .int c0]) ++ List.replicate (3 - (lg_sl ([.ref h0, .int c0])).length) Slot.unset).toArray = ls at hl ⊢
  have hl : lv_has ls 3 [(0, .ref h0), (1, .int c0)] := hl
  refine lv_aload_n hx hb dX11_listedCurve_0 rfl (lv_at hl 0 rfl) ?_
  refine lv_iload_n hx hb dX11_listedCurve_1 rfl (lv_at hl 1 rfl) ?_
  refine px_call (vx_runV (As := [.int c0]) (rest := []) ⟨hx, hb, hml, hown, hu⟩ (t_X11_restCurve l hst dC dI h0 _ fs (c0) hf) (cwV 1 hu (gV u434 u435 u436 u432 u437) rfl rfl rfl (by decide +kernel) ⟨(Nat.le_of_ble_eq_true rfl), (Nat.le_of_ble_eq_true rfl)⟩) ⟨tQ_blind, va_recv hK hP (ci := 11) (q0 := 0) rfl rfl, tQ_at hP hK hev hdv hZ⟩ rfl rfl hl.1 rfl (lv_room (Nat.le_of_ble_eq_true rfl)) dX11_listedCurve_2 ⟨(Nat.le_of_ble_eq_true rfl), (Nat.le_of_ble_eq_true rfl)⟩) rfl hS hA (fun ce q9 H1 locs1 hz1 hk1 hS hce hcv hcl => ?_)
  exact vx_out (fun x h => (htb x h).elim) hlocks hce hcv hcl (fun t ht hvm => ⟨rfl, by rw [ht]; exact hz1, fun q h1 _ => by rw [ht]; exact hk1 q h1⟩) hS.2.2 (Nat.le_of_ble_eq_true rfl) (Nat.le_of_ble_eq_true rfl)
def wk_X11_rest : List Cond := .code yX11_rest cX11_rest 6 (some .int) :: wU
set_option maxHeartbeats 4000000 in
set_option maxRecDepth 100000 in
theorem t_X11_rest (l : Launch) (hst : l.stackTraces = false) (dC : Nat → ClassId) (dI : Nat → Nat → Nat) (h0 sz : Nat) (fs : List Value) (c0 d0 : Int32) (hf : xF fs) : vx_Met l yX11_rest wk_X11_rest ({ frames := 9, cells := 1, slots := 6, locals := 174 } : Room) (tQ dC dI [(h0, .inr (11, fs))] sz [.ref h0, .int c0, .int d0]) (fun _ _ _ _ => False) (px_X nIOO sz) 1 6 (nw sz) := by
  refine vx_ofW (cc := cX11_rest) (maxL := 6) (ret := (some .int)) (by decide) rfl ?_
  intro p e s m args below meth c s₁ B hml htb hv
  obtain ⟨rfl, hsz, hP, hK, hev, hdv, hZ⟩ := hv
  have hx := B.exec
  have hb := B.bytes
  have hr := B.returns
  have hts := atoms_spec (ws := wk_X11_rest) B.pre
  have hu : ∀ w ∈ wU, w.before ([.ref h0, .int c0, .int d0] : List Value).toArray s = true := fun w h => hts w (List.mem_cons_of_mem _ h)
  have hown : s.vm.findClass RX11 = some m.cls := findClass_of_methodNamed B.named
  have hlocks := B.notSynchronized
  subst hsz
  have hA : ∀ q : Nat, s.heap.size ≤ q → nw s.heap.size q := fun _ h => h
  have hS : va_S (nw s.heap.size) s.heap s.heap [] := va_S.rf
  have hl := lv_entry ([.ref h0, .int c0, .int d0]) (n := 6) (Nat.le_of_ble_eq_true rfl)
  rw [lg_entry_eq]
  generalize (lg_sl ([.ref h0, .int c0, .int d0]) ++ List.replicate (6 - (lg_sl ([.ref h0, .int c0, .int d0])).length) Slot.unset).toArray = ls at hl ⊢
  have hl : lv_has ls 6 [(0, .ref h0), (1, .int c0), (2, .int d0)] := hl
  refine lv_aload_n hx hb dX11_rest_0 rfl (lv_at hl 0 rfl) ?_
  refine lv_iload_n hx hb dX11_rest_1 rfl (lv_at hl 1 rfl) ?_
  refine px_call (vx_runV (As := [.int c0]) (rest := []) ⟨hx, hb, hml, hown, hu⟩ (t_X11_wholeCurve l hst dC dI h0 _ fs (c0) hf) (cwV 1 hu (gV u438 u439 u440 u432 u441) rfl rfl rfl (by decide +kernel) ⟨(Nat.le_of_ble_eq_true rfl), (Nat.le_of_ble_eq_true rfl)⟩) ⟨tQ_blind, va_recv hK hP (ci := 11) (q0 := 0) rfl rfl, tQ_at hP hK hev hdv hZ⟩ rfl rfl hl.1 rfl (lv_room (Nat.le_of_ble_eq_true rfl)) dX11_rest_2 ⟨(Nat.le_of_ble_eq_true rfl), (Nat.le_of_ble_eq_true rfl)⟩) rfl hS hA (fun ce q9 H1 locs1 hz1 hk1 hS hce hcv hcl => ?_)
  exact vx_out (fun x h => (htb x h).elim) hlocks hce hcv hcl (fun t ht hvm => ⟨rfl, by rw [ht]; exact hz1, fun q h1 _ => by rw [ht]; exact hk1 q h1⟩) hS.2.2 (Nat.le_of_ble_eq_true rfl) (Nat.le_of_ble_eq_true rfl)
def wk_X11_turned : List Cond := .code yX11_turned cX11_turned 13 (some .int) :: wU
set_option maxHeartbeats 4000000 in
set_option maxRecDepth 100000 in
theorem t_X11_turned (l : Launch) (hst : l.stackTraces = false) (dC : Nat → ClassId) (dI : Nat → Nat → Nat) (h0 sz : Nat) (fs : List Value) (c0 : Int32) (hf : xF fs) : vx_Met l yX11_turned wk_X11_turned ({ frames := 9, cells := 1, slots := 6, locals := 174 } : Room) (tQ dC dI [(h0, .inr (11, fs))] sz [.ref h0, .int c0]) (fun _ _ _ _ => False) (px_X nIOO sz) 1 6 (nw sz) := by
  refine vx_ofW (cc := cX11_turned) (maxL := 13) (ret := (some .int)) (by decide) rfl ?_
  intro p e s m args below meth c s₁ B hml htb hv
  obtain ⟨rfl, hsz, hP, hK, hev, hdv, hZ⟩ := hv
  have hx := B.exec
  have hb := B.bytes
  have hr := B.returns
  have hts := atoms_spec (ws := wk_X11_turned) B.pre
  have hu : ∀ w ∈ wU, w.before ([.ref h0, .int c0] : List Value).toArray s = true := fun w h => hts w (List.mem_cons_of_mem _ h)
  have hown : s.vm.findClass RX11 = some m.cls := findClass_of_methodNamed B.named
  have hlocks := B.notSynchronized
  subst hsz
  have hA : ∀ q : Nat, s.heap.size ≤ q → nw s.heap.size q := fun _ h => h
  have hS : va_S (nw s.heap.size) s.heap s.heap [] := va_S.rf
  have hl := lv_entry ([.ref h0, .int c0]) (n := 13) (Nat.le_of_ble_eq_true rfl)
  rw [lg_entry_eq]
  generalize (lg_sl ([.ref h0, .int c0]) ++ List.replicate (13 - (lg_sl ([.ref h0, .int c0])).length) Slot.unset).toArray = ls at hl ⊢
  have hl : lv_has ls 13 [(0, .ref h0), (1, .int c0)] := hl
  refine lv_aload_n hx hb dX11_turned_0 rfl (lv_at hl 0 rfl) ?_
  refine lv_iload_n hx hb dX11_turned_1 rfl (lv_at hl 1 rfl) ?_
  refine px_call (vx_runV (As := [.int c0]) (rest := []) ⟨hx, hb, hml, hown, hu⟩ (t_X11_restCurve l hst dC dI h0 _ fs (c0) hf) (cwV 1 hu (gV u434 u435 u436 u432 u437) rfl rfl rfl (by decide +kernel) ⟨(Nat.le_of_ble_eq_true rfl), (Nat.le_of_ble_eq_true rfl)⟩) ⟨tQ_blind, va_recv hK hP (ci := 11) (q0 := 0) rfl rfl, tQ_at hP hK hev hdv hZ⟩ rfl rfl hl.1 rfl (lv_room (Nat.le_of_ble_eq_true rfl)) dX11_turned_2 ⟨(Nat.le_of_ble_eq_true rfl), (Nat.le_of_ble_eq_true rfl)⟩) rfl hS hA (fun ce q9 H1 locs1 hz1 hk1 hS hce hcv hcl => ?_)
  exact vx_out (fun x h => (htb x h).elim) hlocks hce hcv hcl (fun t ht hvm => ⟨rfl, by rw [ht]; exact hz1, fun q h1 _ => by rw [ht]; exact hk1 q h1⟩) hS.2.2 (Nat.le_of_ble_eq_true rfl) (Nat.le_of_ble_eq_true rfl)
def wk_X11_about : List Cond := .code yX11_about cX11_about 4 (some .long) :: wU
set_option maxHeartbeats 4000000 in
set_option maxRecDepth 100000 in
theorem t_X11_about (l : Launch) (hst : l.stackTraces = false) (dC : Nat → ClassId) (dI : Nat → Nat → Nat) (h0 sz : Nat) (fs : List Value) (c0 d0 : Int32) (hf : xF fs) : vx_Met l yX11_about wk_X11_about ({ frames := 8, cells := 1, slots := 6, locals := 152 } : Room) (tQ dC dI [(h0, .inr (11, fs))] sz [.ref h0, .int c0, .int d0]) (fun _ _ _ _ => False) (px_X nIOO sz) 1 6 (nw sz) := by
  refine vx_ofW (cc := cX11_about) (maxL := 4) (ret := (some .long)) (by decide) rfl ?_
  intro p e s m args below meth c s₁ B hml htb hv
  obtain ⟨rfl, hsz, hP, hK, hev, hdv, hZ⟩ := hv
  have hx := B.exec
  have hb := B.bytes
  have hr := B.returns
  have hts := atoms_spec (ws := wk_X11_about) B.pre
  have hu : ∀ w ∈ wU, w.before ([.ref h0, .int c0, .int d0] : List Value).toArray s = true := fun w h => hts w (List.mem_cons_of_mem _ h)
  have hown : s.vm.findClass RX11 = some m.cls := findClass_of_methodNamed B.named
  have hlocks := B.notSynchronized
  subst hsz
  have hA : ∀ q : Nat, s.heap.size ≤ q → nw s.heap.size q := fun _ h => h
  have hS : va_S (nw s.heap.size) s.heap s.heap [] := va_S.rf
  have hl := lv_entry ([.ref h0, .int c0, .int d0]) (n := 4) (Nat.le_of_ble_eq_true rfl)
  rw [lg_entry_eq]
  generalize (lg_sl ([.ref h0, .int c0, .int d0]) ++ List.replicate (4 - (lg_sl ([.ref h0, .int c0, .int d0])).length) Slot.unset).toArray = ls at hl ⊢
  have hl : lv_has ls 4 [(0, .ref h0), (1, .int c0), (2, .int d0)] := hl
  refine lv_aload_n hx hb dX11_about_0 rfl (lv_at hl 0 rfl) ?_
  refine lv_iload_n hx hb dX11_about_1 rfl (lv_at hl 1 rfl) ?_
  refine px_call (vx_runV (As := [.int c0]) (rest := []) ⟨hx, hb, hml, hown, hu⟩ (t_X11_curveAt l hst dC dI h0 _ fs (c0) hf) (cwV 1 hu (gV u429 u430 u431 u432 u433) rfl rfl rfl (by decide +kernel) ⟨(Nat.le_of_ble_eq_true rfl), (Nat.le_of_ble_eq_true rfl)⟩) ⟨tQ_blind, va_recv hK hP (ci := 11) (q0 := 0) rfl rfl, tQ_at hP hK hev hdv hZ⟩ rfl rfl hl.1 rfl (lv_room (Nat.le_of_ble_eq_true rfl)) dX11_about_2 ⟨(Nat.le_of_ble_eq_true rfl), (Nat.le_of_ble_eq_true rfl)⟩) rfl hS hA (fun ce q9 H1 locs1 hz1 hk1 hS hce hcv hcl => ?_)
  exact vx_out (fun x h => (htb x h).elim) hlocks hce hcv hcl (fun t ht hvm => ⟨rfl, by rw [ht]; exact hz1, fun q h1 _ => by rw [ht]; exact hk1 q h1⟩) hS.2.2 (Nat.le_of_ble_eq_true rfl) (Nat.le_of_ble_eq_true rfl)
def wk_X11_far : List Cond := .code yX11_far cX11_far 3 (some .int) :: wU
set_option maxHeartbeats 4000000 in
set_option maxRecDepth 100000 in
theorem t_X11_far (l : Launch) (hst : l.stackTraces = false) (dC : Nat → ClassId) (dI : Nat → Nat → Nat) (h0 sz : Nat) (fs : List Value) (c0 : Int32) (hf : xF fs) : vx_Met l yX11_far wk_X11_far ({ frames := 8, cells := 1, slots := 6, locals := 152 } : Room) (tQ dC dI [(h0, .inr (11, fs))] sz [.ref h0, .int c0]) (fun _ _ _ _ => False) (px_X nIOO sz) 1 6 (nw sz) := by
  refine vx_ofW (cc := cX11_far) (maxL := 3) (ret := (some .int)) (by decide) rfl ?_
  intro p e s m args below meth c s₁ B hml htb hv
  obtain ⟨rfl, hsz, hP, hK, hev, hdv, hZ⟩ := hv
  have hx := B.exec
  have hb := B.bytes
  have hr := B.returns
  have hts := atoms_spec (ws := wk_X11_far) B.pre
  have hu : ∀ w ∈ wU, w.before ([.ref h0, .int c0] : List Value).toArray s = true := fun w h => hts w (List.mem_cons_of_mem _ h)
  have hown : s.vm.findClass RX11 = some m.cls := findClass_of_methodNamed B.named
  have hlocks := B.notSynchronized
  subst hsz
  have hA : ∀ q : Nat, s.heap.size ≤ q → nw s.heap.size q := fun _ h => h
  have hS : va_S (nw s.heap.size) s.heap s.heap [] := va_S.rf
  have hl := lv_entry ([.ref h0, .int c0]) (n := 3) (Nat.le_of_ble_eq_true rfl)
  rw [lg_entry_eq]
  generalize (lg_sl ([.ref h0, .int c0]) ++ List.replicate (3 - (lg_sl ([.ref h0, .int c0])).length) Slot.unset).toArray = ls at hl ⊢
  have hl : lv_has ls 3 [(0, .ref h0), (1, .int c0)] := hl
  refine lv_aload_n hx hb dX11_far_0 rfl (lv_at hl 0 rfl) ?_
  refine lv_iload_n hx hb dX11_far_1 rfl (lv_at hl 1 rfl) ?_
  refine px_call (vx_runV (As := [.int c0]) (rest := []) ⟨hx, hb, hml, hown, hu⟩ (t_X11_curveAt l hst dC dI h0 _ fs (c0) hf) (cwV 1 hu (gV u429 u430 u431 u432 u433) rfl rfl rfl (by decide +kernel) ⟨(Nat.le_of_ble_eq_true rfl), (Nat.le_of_ble_eq_true rfl)⟩) ⟨tQ_blind, va_recv hK hP (ci := 11) (q0 := 0) rfl rfl, tQ_at hP hK hev hdv hZ⟩ rfl rfl hl.1 rfl (lv_room (Nat.le_of_ble_eq_true rfl)) dX11_far_2 ⟨(Nat.le_of_ble_eq_true rfl), (Nat.le_of_ble_eq_true rfl)⟩) rfl hS hA (fun ce q9 H1 locs1 hz1 hk1 hS hce hcv hcl => ?_)
  exact vx_out (fun x h => (htb x h).elim) hlocks hce hcv hcl (fun t ht hvm => ⟨rfl, by rw [ht]; exact hz1, fun q h1 _ => by rw [ht]; exact hk1 q h1⟩) hS.2.2 (Nat.le_of_ble_eq_true rfl) (Nat.le_of_ble_eq_true rfl)
def wk_X11_point : List Cond := .code yX11_point cX11_point 7 (some .int) :: wU
set_option maxHeartbeats 4000000 in
set_option maxRecDepth 100000 in
theorem t_X11_point (l : Launch) (hst : l.stackTraces = false) (dC : Nat → ClassId) (dI : Nat → Nat → Nat) (h0 sz : Nat) (fs : List Value) (c0 d0 e0 : Int32) (hf : xF fs) : vx_Met l yX11_point wk_X11_point ({ frames := 8, cells := 1, slots := 6, locals := 152 } : Room) (tQ dC dI [(h0, .inr (11, fs))] sz [.ref h0, .int c0, .int d0, .int e0]) (fun _ _ _ _ => False) (px_X nIOO sz) 1 6 (nw sz) := by
  refine vx_ofW (cc := cX11_point) (maxL := 7) (ret := (some .int)) (by decide) rfl ?_
  intro p e s m args below meth c s₁ B hml htb hv
  obtain ⟨rfl, hsz, hP, hK, hev, hdv, hZ⟩ := hv
  have hx := B.exec
  have hb := B.bytes
  have hr := B.returns
  have hts := atoms_spec (ws := wk_X11_point) B.pre
  have hu : ∀ w ∈ wU, w.before ([.ref h0, .int c0, .int d0, .int e0] : List Value).toArray s = true := fun w h => hts w (List.mem_cons_of_mem _ h)
  have hown : s.vm.findClass RX11 = some m.cls := findClass_of_methodNamed B.named
  have hlocks := B.notSynchronized
  subst hsz
  have hA : ∀ q : Nat, s.heap.size ≤ q → nw s.heap.size q := fun _ h => h
  have hS : va_S (nw s.heap.size) s.heap s.heap [] := va_S.rf
  have hl := lv_entry ([.ref h0, .int c0, .int d0, .int e0]) (n := 7) (Nat.le_of_ble_eq_true rfl)
  rw [lg_entry_eq]
  generalize (lg_sl ([.ref h0, .int c0, .int d0, .int e0]) ++ List.replicate (7 - (lg_sl ([.ref h0, .int c0, .int d0, .int e0])).length) Slot.unset).toArray = ls at hl ⊢
  have hl : lv_has ls 7 [(0, .ref h0), (1, .int c0), (2, .int d0), (3, .int e0)] := hl
  refine lv_aload_n hx hb dX11_point_0 rfl (lv_at hl 0 rfl) ?_
  refine lv_iload_n hx hb dX11_point_1 rfl (lv_at hl 1 rfl) ?_
  refine px_call (vx_runV (As := [.int c0]) (rest := []) ⟨hx, hb, hml, hown, hu⟩ (t_X11_curveAt l hst dC dI h0 _ fs (c0) hf) (cwV 1 hu (gV u429 u430 u431 u432 u433) rfl rfl rfl (by decide +kernel) ⟨(Nat.le_of_ble_eq_true rfl), (Nat.le_of_ble_eq_true rfl)⟩) ⟨tQ_blind, va_recv hK hP (ci := 11) (q0 := 0) rfl rfl, tQ_at hP hK hev hdv hZ⟩ rfl rfl hl.1 rfl (lv_room (Nat.le_of_ble_eq_true rfl)) dX11_point_2 ⟨(Nat.le_of_ble_eq_true rfl), (Nat.le_of_ble_eq_true rfl)⟩) rfl hS hA (fun ce q9 H1 locs1 hz1 hk1 hS hce hcv hcl => ?_)
  exact vx_out (fun x h => (htb x h).elim) hlocks hce hcv hcl (fun t ht hvm => ⟨rfl, by rw [ht]; exact hz1, fun q h1 _ => by rw [ht]; exact hk1 q h1⟩) hS.2.2 (Nat.le_of_ble_eq_true rfl) (Nat.le_of_ble_eq_true rfl)
def wk_X11_add : List Cond := .code yX11_add cX11_add 6 (some .int) :: wU
set_option maxHeartbeats 4000000 in
set_option maxRecDepth 100000 in
theorem t_X11_add (l : Launch) (hst : l.stackTraces = false) (dC : Nat → ClassId) (dI : Nat → Nat → Nat) (h0 sz : Nat) (fs : List Value) (c0 d0 : Int32) (hf : xF fs) : vx_Met l yX11_add wk_X11_add ({ frames := 8, cells := 1, slots := 6, locals := 152 } : Room) (tQ dC dI [(h0, .inr (11, fs))] sz [.ref h0, .int c0, .int d0]) (fun _ _ _ _ => False) (px_X nIOO sz) 1 6 (nw sz) := by
  refine vx_ofW (cc := cX11_add) (maxL := 6) (ret := (some .int)) (by decide) rfl ?_
  intro p e s m args below meth c s₁ B hml htb hv
  obtain ⟨rfl, hsz, hP, hK, hev, hdv, hZ⟩ := hv
  have hx := B.exec
  have hb := B.bytes
  have hr := B.returns
  have hts := atoms_spec (ws := wk_X11_add) B.pre
  have hu : ∀ w ∈ wU, w.before ([.ref h0, .int c0, .int d0] : List Value).toArray s = true := fun w h => hts w (List.mem_cons_of_mem _ h)
  have hown : s.vm.findClass RX11 = some m.cls := findClass_of_methodNamed B.named
  have hlocks := B.notSynchronized
  subst hsz
  have hA : ∀ q : Nat, s.heap.size ≤ q → nw s.heap.size q := fun _ h => h
  have hS : va_S (nw s.heap.size) s.heap s.heap [] := va_S.rf
  have hl := lv_entry ([.ref h0, .int c0, .int d0]) (n := 6) (Nat.le_of_ble_eq_true rfl)
  rw [lg_entry_eq]
  generalize (lg_sl ([.ref h0, .int c0, .int d0]) ++ List.replicate (6 - (lg_sl ([.ref h0, .int c0, .int d0])).length) Slot.unset).toArray = ls at hl ⊢
  have hl : lv_has ls 6 [(0, .ref h0), (1, .int c0), (2, .int d0)] := hl
  refine lv_aload_n hx hb dX11_add_0 rfl (lv_at hl 0 rfl) ?_
  refine lv_iload_n hx hb dX11_add_1 rfl (lv_at hl 1 rfl) ?_
  refine px_call (vx_runV (As := [.int c0]) (rest := []) ⟨hx, hb, hml, hown, hu⟩ (t_X11_spotAt l hst dC dI h0 _ fs (c0) hf) (cwV 1 hu (gV u442 u443 u444 u432 u445) rfl rfl rfl (by decide +kernel) ⟨(Nat.le_of_ble_eq_true rfl), (Nat.le_of_ble_eq_true rfl)⟩) ⟨tQ_blind, va_recv hK hP (ci := 11) (q0 := 0) rfl rfl, tQ_at hP hK hev hdv hZ⟩ rfl rfl hl.1 rfl (lv_room (Nat.le_of_ble_eq_true rfl)) dX11_add_2 ⟨(Nat.le_of_ble_eq_true rfl), (Nat.le_of_ble_eq_true rfl)⟩) rfl hS hA (fun ce q9 H1 locs1 hz1 hk1 hS hce hcv hcl => ?_)
  exact vx_out (fun x h => (htb x h).elim) hlocks hce hcv hcl (fun t ht hvm => ⟨rfl, by rw [ht]; exact hz1, fun q h1 _ => by rw [ht]; exact hk1 q h1⟩) hS.2.2 (Nat.le_of_ble_eq_true rfl) (Nat.le_of_ble_eq_true rfl)
def wk_X11_mirror : List Cond := .code yX11_mirror cX11_mirror 4 (some .int) :: wU
set_option maxHeartbeats 4000000 in
set_option maxRecDepth 100000 in
theorem t_X11_mirror (l : Launch) (hst : l.stackTraces = false) (dC : Nat → ClassId) (dI : Nat → Nat → Nat) (h0 sz : Nat) (fs : List Value) (c0 : Int32) (hf : xF fs) : vx_Met l yX11_mirror wk_X11_mirror ({ frames := 8, cells := 1, slots := 6, locals := 152 } : Room) (tQ dC dI [(h0, .inr (11, fs))] sz [.ref h0, .int c0]) (fun _ _ _ _ => False) (px_X nIOO sz) 1 6 (nw sz) := by
  refine vx_ofW (cc := cX11_mirror) (maxL := 4) (ret := (some .int)) (by decide) rfl ?_
  intro p e s m args below meth c s₁ B hml htb hv
  obtain ⟨rfl, hsz, hP, hK, hev, hdv, hZ⟩ := hv
  have hx := B.exec
  have hb := B.bytes
  have hr := B.returns
  have hts := atoms_spec (ws := wk_X11_mirror) B.pre
  have hu : ∀ w ∈ wU, w.before ([.ref h0, .int c0] : List Value).toArray s = true := fun w h => hts w (List.mem_cons_of_mem _ h)
  have hown : s.vm.findClass RX11 = some m.cls := findClass_of_methodNamed B.named
  have hlocks := B.notSynchronized
  subst hsz
  have hA : ∀ q : Nat, s.heap.size ≤ q → nw s.heap.size q := fun _ h => h
  have hS : va_S (nw s.heap.size) s.heap s.heap [] := va_S.rf
  have hl := lv_entry ([.ref h0, .int c0]) (n := 4) (Nat.le_of_ble_eq_true rfl)
  rw [lg_entry_eq]
  generalize (lg_sl ([.ref h0, .int c0]) ++ List.replicate (4 - (lg_sl ([.ref h0, .int c0])).length) Slot.unset).toArray = ls at hl ⊢
  have hl : lv_has ls 4 [(0, .ref h0), (1, .int c0)] := hl
  refine lv_aload_n hx hb dX11_mirror_0 rfl (lv_at hl 0 rfl) ?_
  refine lv_iload_n hx hb dX11_mirror_1 rfl (lv_at hl 1 rfl) ?_
  refine px_call (vx_runV (As := [.int c0]) (rest := []) ⟨hx, hb, hml, hown, hu⟩ (t_X11_spotAt l hst dC dI h0 _ fs (c0) hf) (cwV 1 hu (gV u442 u443 u444 u432 u445) rfl rfl rfl (by decide +kernel) ⟨(Nat.le_of_ble_eq_true rfl), (Nat.le_of_ble_eq_true rfl)⟩) ⟨tQ_blind, va_recv hK hP (ci := 11) (q0 := 0) rfl rfl, tQ_at hP hK hev hdv hZ⟩ rfl rfl hl.1 rfl (lv_room (Nat.le_of_ble_eq_true rfl)) dX11_mirror_2 ⟨(Nat.le_of_ble_eq_true rfl), (Nat.le_of_ble_eq_true rfl)⟩) rfl hS hA (fun ce q9 H1 locs1 hz1 hk1 hS hce hcv hcl => ?_)
  exact vx_out (fun x h => (htb x h).elim) hlocks hce hcv hcl (fun t ht hvm => ⟨rfl, by rw [ht]; exact hz1, fun q h1 _ => by rw [ht]; exact hk1 q h1⟩) hS.2.2 (Nat.le_of_ble_eq_true rfl) (Nat.le_of_ble_eq_true rfl)
def wk_X11_times : List Cond := .code yX11_times cX11_times 7 (some .int) :: wU
set_option maxHeartbeats 4000000 in
set_option maxRecDepth 100000 in
theorem t_X11_times (l : Launch) (hst : l.stackTraces = false) (dC : Nat → ClassId) (dI : Nat → Nat → Nat) (h0 sz : Nat) (fs : List Value) (c0 d0 : Int32) (hf : xF fs) : vx_Met l yX11_times wk_X11_times ({ frames := 8, cells := 1, slots := 6, locals := 152 } : Room) (tQ dC dI [(h0, .inr (11, fs))] sz [.ref h0, .int c0, .int d0]) (fun _ _ _ _ => False) (px_X nIOO sz) 1 6 (nw sz) := by
  refine vx_ofW (cc := cX11_times) (maxL := 7) (ret := (some .int)) (by decide) rfl ?_
  intro p e s m args below meth c s₁ B hml htb hv
  obtain ⟨rfl, hsz, hP, hK, hev, hdv, hZ⟩ := hv
  have hx := B.exec
  have hb := B.bytes
  have hr := B.returns
  have hts := atoms_spec (ws := wk_X11_times) B.pre
  have hu : ∀ w ∈ wU, w.before ([.ref h0, .int c0, .int d0] : List Value).toArray s = true := fun w h => hts w (List.mem_cons_of_mem _ h)
  have hown : s.vm.findClass RX11 = some m.cls := findClass_of_methodNamed B.named
  have hlocks := B.notSynchronized
  subst hsz
  have hA : ∀ q : Nat, s.heap.size ≤ q → nw s.heap.size q := fun _ h => h
  have hS : va_S (nw s.heap.size) s.heap s.heap [] := va_S.rf
  have hl := lv_entry ([.ref h0, .int c0, .int d0]) (n := 7) (Nat.le_of_ble_eq_true rfl)
  rw [lg_entry_eq]
  generalize (lg_sl ([.ref h0, .int c0, .int d0]) ++ List.replicate (7 - (lg_sl ([.ref h0, .int c0, .int d0])).length) Slot.unset).toArray = ls at hl ⊢
  have hl : lv_has ls 7 [(0, .ref h0), (1, .int c0), (2, .int d0)] := hl
  refine lv_aload_n hx hb dX11_times_0 rfl (lv_at hl 0 rfl) ?_
  refine lv_iload_n hx hb dX11_times_1 rfl (lv_at hl 1 rfl) ?_
  refine px_call (vx_runV (As := [.int c0]) (rest := []) ⟨hx, hb, hml, hown, hu⟩ (t_X11_spotAt l hst dC dI h0 _ fs (c0) hf) (cwV 1 hu (gV u442 u443 u444 u432 u445) rfl rfl rfl (by decide +kernel) ⟨(Nat.le_of_ble_eq_true rfl), (Nat.le_of_ble_eq_true rfl)⟩) ⟨tQ_blind, va_recv hK hP (ci := 11) (q0 := 0) rfl rfl, tQ_at hP hK hev hdv hZ⟩ rfl rfl hl.1 rfl (lv_room (Nat.le_of_ble_eq_true rfl)) dX11_times_2 ⟨(Nat.le_of_ble_eq_true rfl), (Nat.le_of_ble_eq_true rfl)⟩) rfl hS hA (fun ce q9 H1 locs1 hz1 hk1 hS hce hcv hcl => ?_)
  exact vx_out (fun x h => (htb x h).elim) hlocks hce hcv hcl (fun t ht hvm => ⟨rfl, by rw [ht]; exact hz1, fun q h1 _ => by rw [ht]; exact hk1 q h1⟩) hS.2.2 (Nat.le_of_ble_eq_true rfl) (Nat.le_of_ble_eq_true rfl)
def wk_X11_order : List Cond := .code yX11_order cX11_order 3 (some .int) :: wU
set_option maxHeartbeats 4000000 in
set_option maxRecDepth 100000 in
theorem t_X11_order (l : Launch) (hst : l.stackTraces = false) (dC : Nat → ClassId) (dI : Nat → Nat → Nat) (h0 sz : Nat) (fs : List Value) (c0 : Int32) (hf : xF fs) : vx_Met l yX11_order wk_X11_order ({ frames := 8, cells := 1, slots := 6, locals := 152 } : Room) (tQ dC dI [(h0, .inr (11, fs))] sz [.ref h0, .int c0]) (fun _ _ _ _ => False) (px_X nIOO sz) 1 6 (nw sz) := by
  refine vx_ofW (cc := cX11_order) (maxL := 3) (ret := (some .int)) (by decide) rfl ?_
  intro p e s m args below meth c s₁ B hml htb hv
  obtain ⟨rfl, hsz, hP, hK, hev, hdv, hZ⟩ := hv
  have hx := B.exec
  have hb := B.bytes
  have hr := B.returns
  have hts := atoms_spec (ws := wk_X11_order) B.pre
  have hu : ∀ w ∈ wU, w.before ([.ref h0, .int c0] : List Value).toArray s = true := fun w h => hts w (List.mem_cons_of_mem _ h)
  have hown : s.vm.findClass RX11 = some m.cls := findClass_of_methodNamed B.named
  have hlocks := B.notSynchronized
  subst hsz
  have hA : ∀ q : Nat, s.heap.size ≤ q → nw s.heap.size q := fun _ h => h
  have hS : va_S (nw s.heap.size) s.heap s.heap [] := va_S.rf
  have hl := lv_entry ([.ref h0, .int c0]) (n := 3) (Nat.le_of_ble_eq_true rfl)
  rw [lg_entry_eq]
  generalize (lg_sl ([.ref h0, .int c0]) ++ List.replicate (3 - (lg_sl ([.ref h0, .int c0])).length) Slot.unset).toArray = ls at hl ⊢
  have hl : lv_has ls 3 [(0, .ref h0), (1, .int c0)] := hl
  refine lv_aload_n hx hb dX11_order_0 rfl (lv_at hl 0 rfl) ?_
  refine lv_iload_n hx hb dX11_order_1 rfl (lv_at hl 1 rfl) ?_
  refine px_call (vx_runV (As := [.int c0]) (rest := []) ⟨hx, hb, hml, hown, hu⟩ (t_X11_spotAt l hst dC dI h0 _ fs (c0) hf) (cwV 1 hu (gV u442 u443 u444 u432 u445) rfl rfl rfl (by decide +kernel) ⟨(Nat.le_of_ble_eq_true rfl), (Nat.le_of_ble_eq_true rfl)⟩) ⟨tQ_blind, va_recv hK hP (ci := 11) (q0 := 0) rfl rfl, tQ_at hP hK hev hdv hZ⟩ rfl rfl hl.1 rfl (lv_room (Nat.le_of_ble_eq_true rfl)) dX11_order_2 ⟨(Nat.le_of_ble_eq_true rfl), (Nat.le_of_ble_eq_true rfl)⟩) rfl hS hA (fun ce q9 H1 locs1 hz1 hk1 hS hce hcv hcl => ?_)
  exact vx_out (fun x h => (htb x h).elim) hlocks hce hcv hcl (fun t ht hvm => ⟨rfl, by rw [ht]; exact hz1, fun q h1 _ => by rw [ht]; exact hk1 q h1⟩) hS.2.2 (Nat.le_of_ble_eq_true rfl) (Nat.le_of_ble_eq_true rfl)
def wk_X11_told : List Cond := .code yX11_told cX11_told 4 (some .int) :: wU
set_option maxHeartbeats 4000000 in
set_option maxRecDepth 100000 in
theorem t_X11_told (l : Launch) (hst : l.stackTraces = false) (dC : Nat → ClassId) (dI : Nat → Nat → Nat) (h0 sz : Nat) (fs : List Value) (c0 d0 : Int32) (hf : xF fs) : vx_Met l yX11_told wk_X11_told ({ frames := 8, cells := 1, slots := 6, locals := 152 } : Room) (tQ dC dI [(h0, .inr (11, fs))] sz [.ref h0, .int c0, .int d0]) (fun _ _ _ _ => False) (px_X nIOO sz) 1 6 (nw sz) := by
  refine vx_ofW (cc := cX11_told) (maxL := 4) (ret := (some .int)) (by decide) rfl ?_
  intro p e s m args below meth c s₁ B hml htb hv
  obtain ⟨rfl, hsz, hP, hK, hev, hdv, hZ⟩ := hv
  have hx := B.exec
  have hb := B.bytes
  have hr := B.returns
  have hts := atoms_spec (ws := wk_X11_told) B.pre
  have hu : ∀ w ∈ wU, w.before ([.ref h0, .int c0, .int d0] : List Value).toArray s = true := fun w h => hts w (List.mem_cons_of_mem _ h)
  have hown : s.vm.findClass RX11 = some m.cls := findClass_of_methodNamed B.named
  have hlocks := B.notSynchronized
  subst hsz
  have hA : ∀ q : Nat, s.heap.size ≤ q → nw s.heap.size q := fun _ h => h
  have hS : va_S (nw s.heap.size) s.heap s.heap [] := va_S.rf
  have hl := lv_entry ([.ref h0, .int c0, .int d0]) (n := 4) (Nat.le_of_ble_eq_true rfl)
  rw [lg_entry_eq]
  generalize (lg_sl ([.ref h0, .int c0, .int d0]) ++ List.replicate (4 - (lg_sl ([.ref h0, .int c0, .int d0])).length) Slot.unset).toArray = ls at hl ⊢
  have hl : lv_has ls 4 [(0, .ref h0), (1, .int c0), (2, .int d0)] := hl
  refine lv_aload_n hx hb dX11_told_0 rfl (lv_at hl 0 rfl) ?_
  refine lv_iload_n hx hb dX11_told_1 rfl (lv_at hl 1 rfl) ?_
  refine px_call (vx_runV (As := [.int c0]) (rest := []) ⟨hx, hb, hml, hown, hu⟩ (t_X11_spotAt l hst dC dI h0 _ fs (c0) hf) (cwV 1 hu (gV u442 u443 u444 u432 u445) rfl rfl rfl (by decide +kernel) ⟨(Nat.le_of_ble_eq_true rfl), (Nat.le_of_ble_eq_true rfl)⟩) ⟨tQ_blind, va_recv hK hP (ci := 11) (q0 := 0) rfl rfl, tQ_at hP hK hev hdv hZ⟩ rfl rfl hl.1 rfl (lv_room (Nat.le_of_ble_eq_true rfl)) dX11_told_2 ⟨(Nat.le_of_ble_eq_true rfl), (Nat.le_of_ble_eq_true rfl)⟩) rfl hS hA (fun ce q9 H1 locs1 hz1 hk1 hS hce hcv hcl => ?_)
  exact vx_out (fun x h => (htb x h).elim) hlocks hce hcv hcl (fun t ht hvm => ⟨rfl, by rw [ht]; exact hz1, fun q h1 _ => by rw [ht]; exact hk1 q h1⟩) hS.2.2 (Nat.le_of_ble_eq_true rfl) (Nat.le_of_ble_eq_true rfl)
def wk_X11_print : List Cond := .code yX11_print cX11_print 4 (some .int) :: wU
set_option maxHeartbeats 4000000 in
set_option maxRecDepth 100000 in
theorem t_X11_print (l : Launch) (hst : l.stackTraces = false) (dC : Nat → ClassId) (dI : Nat → Nat → Nat) (h0 sz : Nat) (fs : List Value) (c0 d0 : Int32) (hf : xF fs) : vx_Met l yX11_print wk_X11_print ({ frames := 8, cells := 1, slots := 6, locals := 152 } : Room) (tQ dC dI [(h0, .inr (11, fs))] sz [.ref h0, .int c0, .int d0]) (fun _ _ _ _ => False) (px_X nIOO sz) 1 6 (nw sz) := by
  refine vx_ofW (cc := cX11_print) (maxL := 4) (ret := (some .int)) (by decide) rfl ?_
  intro p e s m args below meth c s₁ B hml htb hv
  obtain ⟨rfl, hsz, hP, hK, hev, hdv, hZ⟩ := hv
  have hx := B.exec
  have hb := B.bytes
  have hr := B.returns
  have hts := atoms_spec (ws := wk_X11_print) B.pre
  have hu : ∀ w ∈ wU, w.before ([.ref h0, .int c0, .int d0] : List Value).toArray s = true := fun w h => hts w (List.mem_cons_of_mem _ h)
  have hown : s.vm.findClass RX11 = some m.cls := findClass_of_methodNamed B.named
  have hlocks := B.notSynchronized
  subst hsz
  have hA : ∀ q : Nat, s.heap.size ≤ q → nw s.heap.size q := fun _ h => h
  have hS : va_S (nw s.heap.size) s.heap s.heap [] := va_S.rf
  have hl := lv_entry ([.ref h0, .int c0, .int d0]) (n := 4) (Nat.le_of_ble_eq_true rfl)
  rw [lg_entry_eq]
  generalize (lg_sl ([.ref h0, .int c0, .int d0]) ++ List.replicate (4 - (lg_sl ([.ref h0, .int c0, .int d0])).length) Slot.unset).toArray = ls at hl ⊢
  have hl : lv_has ls 4 [(0, .ref h0), (1, .int c0), (2, .int d0)] := hl
  refine lv_aload_n hx hb dX11_print_0 rfl (lv_at hl 0 rfl) ?_
  refine lv_iload_n hx hb dX11_print_1 rfl (lv_at hl 1 rfl) ?_
  refine px_call (vx_runV (As := [.int c0]) (rest := []) ⟨hx, hb, hml, hown, hu⟩ (t_X11_spotAt l hst dC dI h0 _ fs (c0) hf) (cwV 1 hu (gV u442 u443 u444 u432 u445) rfl rfl rfl (by decide +kernel) ⟨(Nat.le_of_ble_eq_true rfl), (Nat.le_of_ble_eq_true rfl)⟩) ⟨tQ_blind, va_recv hK hP (ci := 11) (q0 := 0) rfl rfl, tQ_at hP hK hev hdv hZ⟩ rfl rfl hl.1 rfl (lv_room (Nat.le_of_ble_eq_true rfl)) dX11_print_2 ⟨(Nat.le_of_ble_eq_true rfl), (Nat.le_of_ble_eq_true rfl)⟩) rfl hS hA (fun ce q9 H1 locs1 hz1 hk1 hS hce hcv hcl => ?_)
  exact vx_out (fun x h => (htb x h).elim) hlocks hce hcv hcl (fun t ht hvm => ⟨rfl, by rw [ht]; exact hz1, fun q h1 _ => by rw [ht]; exact hk1 q h1⟩) hS.2.2 (Nat.le_of_ble_eq_true rfl) (Nat.le_of_ble_eq_true rfl)
def wk_X11_back : List Cond := .code yX11_back cX11_back 2 (some .int) :: wU
set_option maxHeartbeats 4000000 in
set_option maxRecDepth 100000 in
theorem t_X11_back (l : Launch) (hst : l.stackTraces = false) (dC : Nat → ClassId) (dI : Nat → Nat → Nat) (h0 sz : Nat) (fs : List Value) (c0 : Int32) (hf : xF fs) : vx_Met l yX11_back wk_X11_back ({ frames := 9, cells := 1, slots := 6, locals := 174 } : Room) (tQ dC dI [(h0, .inr (11, fs))] sz [.ref h0, .int c0]) (fun _ _ _ _ => False) (px_X nIOO sz) 1 6 (nw sz) := by
  refine vx_ofW (cc := cX11_back) (maxL := 2) (ret := (some .int)) (by decide) rfl ?_
  intro p e s m args below meth c s₁ B hml htb hv
  obtain ⟨rfl, hsz, hP, hK, hev, hdv, hZ⟩ := hv
  have hx := B.exec
  have hb := B.bytes
  have hr := B.returns
  have hts := atoms_spec (ws := wk_X11_back) B.pre
  have hu : ∀ w ∈ wU, w.before ([.ref h0, .int c0] : List Value).toArray s = true := fun w h => hts w (List.mem_cons_of_mem _ h)
  have hown : s.vm.findClass RX11 = some m.cls := findClass_of_methodNamed B.named
  have hlocks := B.notSynchronized
  subst hsz
  have hA : ∀ q : Nat, s.heap.size ≤ q → nw s.heap.size q := fun _ h => h
  have hS : va_S (nw s.heap.size) s.heap s.heap [] := va_S.rf
  have hl := lv_entry ([.ref h0, .int c0]) (n := 2) (Nat.le_of_ble_eq_true rfl)
  rw [lg_entry_eq]
  generalize (lg_sl ([.ref h0, .int c0]) ++ List.replicate (2 - (lg_sl ([.ref h0, .int c0])).length) Slot.unset).toArray = ls at hl ⊢
  have hl : lv_has ls 2 [(0, .ref h0), (1, .int c0)] := hl
  obtain ⟨qt, hqt⟩ := hf.2.2.2.2
  refine lv_aload_n hx hb dX11_back_0 rfl (lv_at hl 0 rfl) ?_
  refine va_get (D := (dC, dI)) (ci := 11) (v := .ref qt) (C := RX11) (T := TX11) (N := 16) hx hb hu iX11 hown hK hP 0 rfl rfl 9 (by decide) (hu _ u123) (fun _ h9 => h9) hqt dX11_back_1 ?_
  refine lv_aload_n hx hb dX11_back_4 rfl (lv_at hl 0 rfl) ?_
  refine lv_iload_n hx hb dX11_back_5 rfl (lv_at hl 1 rfl) ?_
  refine px_call (vx_runV (As := [.int c0]) (rest := [.ref qt]) ⟨hx, hb, hml, hown, hu⟩ (t_X11_wholeCurve l hst dC dI h0 _ fs (c0) hf) (cwV 1 hu (gV u438 u439 u440 u432 u441) rfl rfl rfl (by decide +kernel) ⟨(Nat.le_of_ble_eq_true rfl), (Nat.le_of_ble_eq_true rfl)⟩) ⟨tQ_blind, va_recv hK hP (ci := 11) (q0 := 0) rfl rfl, tQ_at hP hK hev hdv hZ⟩ rfl rfl hl.1 rfl (lv_room (Nat.le_of_ble_eq_true rfl)) dX11_back_6 ⟨(Nat.le_of_ble_eq_true rfl), (Nat.le_of_ble_eq_true rfl)⟩) rfl hS hA (fun ce q9 H1 locs1 hz1 hk1 hS hce hcv hcl => ?_)
  exact vx_out (fun x h => (htb x h).elim) hlocks hce hcv hcl (fun t ht hvm => ⟨rfl, by rw [ht]; exact hz1, fun q h1 _ => by rw [ht]; exact hk1 q h1⟩) hS.2.2 (Nat.le_of_ble_eq_true rfl) (Nat.le_of_ble_eq_true rfl)
def wk_X11_backAt : List Cond := .code yX11_backAt cX11_backAt 4 (some .int) :: wU
set_option maxHeartbeats 4000000 in
set_option maxRecDepth 100000 in
theorem t_X11_backAt (l : Launch) (hst : l.stackTraces = false) (dC : Nat → ClassId) (dI : Nat → Nat → Nat) (h0 sz : Nat) (fs : List Value) (c0 d0 : Int32) (hf : xF fs) : vx_Met l yX11_backAt wk_X11_backAt ({ frames := 9, cells := 1, slots := 6, locals := 174 } : Room) (tQ dC dI [(h0, .inr (11, fs))] sz [.ref h0, .int c0, .int d0]) (fun _ _ _ _ => False) (px_X nIOO sz) 1 6 (nw sz) := by
  refine vx_ofW (cc := cX11_backAt) (maxL := 4) (ret := (some .int)) (by decide) rfl ?_
  intro p e s m args below meth c s₁ B hml htb hv
  obtain ⟨rfl, hsz, hP, hK, hev, hdv, hZ⟩ := hv
  have hx := B.exec
  have hb := B.bytes
  have hr := B.returns
  have hts := atoms_spec (ws := wk_X11_backAt) B.pre
  have hu : ∀ w ∈ wU, w.before ([.ref h0, .int c0, .int d0] : List Value).toArray s = true := fun w h => hts w (List.mem_cons_of_mem _ h)
  have hown : s.vm.findClass RX11 = some m.cls := findClass_of_methodNamed B.named
  have hlocks := B.notSynchronized
  subst hsz
  have hA : ∀ q : Nat, s.heap.size ≤ q → nw s.heap.size q := fun _ h => h
  have hS : va_S (nw s.heap.size) s.heap s.heap [] := va_S.rf
  have hl := lv_entry ([.ref h0, .int c0, .int d0]) (n := 4) (Nat.le_of_ble_eq_true rfl)
  rw [lg_entry_eq]
  generalize (lg_sl ([.ref h0, .int c0, .int d0]) ++ List.replicate (4 - (lg_sl ([.ref h0, .int c0, .int d0])).length) Slot.unset).toArray = ls at hl ⊢
  have hl : lv_has ls 4 [(0, .ref h0), (1, .int c0), (2, .int d0)] := hl
  refine lv_aload_n hx hb dX11_backAt_0 rfl (lv_at hl 0 rfl) ?_
  refine lv_iload_n hx hb dX11_backAt_1 rfl (lv_at hl 1 rfl) ?_
  refine px_call (vx_runV (As := [.int c0]) (rest := []) ⟨hx, hb, hml, hown, hu⟩ (t_X11_wholeCurve l hst dC dI h0 _ fs (c0) hf) (cwV 1 hu (gV u438 u439 u440 u432 u441) rfl rfl rfl (by decide +kernel) ⟨(Nat.le_of_ble_eq_true rfl), (Nat.le_of_ble_eq_true rfl)⟩) ⟨tQ_blind, va_recv hK hP (ci := 11) (q0 := 0) rfl rfl, tQ_at hP hK hev hdv hZ⟩ rfl rfl hl.1 rfl (lv_room (Nat.le_of_ble_eq_true rfl)) dX11_backAt_2 ⟨(Nat.le_of_ble_eq_true rfl), (Nat.le_of_ble_eq_true rfl)⟩) rfl hS hA (fun ce q9 H1 locs1 hz1 hk1 hS hce hcv hcl => ?_)
  exact vx_out (fun x h => (htb x h).elim) hlocks hce hcv hcl (fun t ht hvm => ⟨rfl, by rw [ht]; exact hz1, fun q h1 _ => by rw [ht]; exact hk1 q h1⟩) hS.2.2 (Nat.le_of_ble_eq_true rfl) (Nat.le_of_ble_eq_true rfl)
def wk_X11_search : List Cond := .code yX11_search cX11_search 4 (some .int) :: wU
set_option maxHeartbeats 4000000 in
set_option maxRecDepth 100000 in
theorem t_X11_search (l : Launch) (hst : l.stackTraces = false) (dC : Nat → ClassId) (dI : Nat → Nat → Nat) (h0 sz : Nat) (fs : List Value) (c0 d0 : Int32) (hf : xF fs) : vx_Met l yX11_search wk_X11_search ({ frames := 9, cells := 1, slots := 6, locals := 174 } : Room) (tQ dC dI [(h0, .inr (11, fs))] sz [.ref h0, .int c0, .int d0]) (fun _ _ _ _ => False) (px_X nIOO sz) 1 6 (nw sz) := by
  refine vx_ofW (cc := cX11_search) (maxL := 4) (ret := (some .int)) (by decide) rfl ?_
  intro p e s m args below meth c s₁ B hml htb hv
  obtain ⟨rfl, hsz, hP, hK, hev, hdv, hZ⟩ := hv
  have hx := B.exec
  have hb := B.bytes
  have hr := B.returns
  have hts := atoms_spec (ws := wk_X11_search) B.pre
  have hu : ∀ w ∈ wU, w.before ([.ref h0, .int c0, .int d0] : List Value).toArray s = true := fun w h => hts w (List.mem_cons_of_mem _ h)
  have hown : s.vm.findClass RX11 = some m.cls := findClass_of_methodNamed B.named
  have hlocks := B.notSynchronized
  subst hsz
  have hA : ∀ q : Nat, s.heap.size ≤ q → nw s.heap.size q := fun _ h => h
  have hS : va_S (nw s.heap.size) s.heap s.heap [] := va_S.rf
  have hl := lv_entry ([.ref h0, .int c0, .int d0]) (n := 4) (Nat.le_of_ble_eq_true rfl)
  rw [lg_entry_eq]
  generalize (lg_sl ([.ref h0, .int c0, .int d0]) ++ List.replicate (4 - (lg_sl ([.ref h0, .int c0, .int d0])).length) Slot.unset).toArray = ls at hl ⊢
  have hl : lv_has ls 4 [(0, .ref h0), (1, .int c0), (2, .int d0)] := hl
  refine lv_aload_n hx hb dX11_search_0 rfl (lv_at hl 0 rfl) ?_
  refine lv_iload_n hx hb dX11_search_1 rfl (lv_at hl 1 rfl) ?_
  refine px_call (vx_runV (As := [.int c0]) (rest := []) ⟨hx, hb, hml, hown, hu⟩ (t_X11_wholeCurve l hst dC dI h0 _ fs (c0) hf) (cwV 1 hu (gV u438 u439 u440 u432 u441) rfl rfl rfl (by decide +kernel) ⟨(Nat.le_of_ble_eq_true rfl), (Nat.le_of_ble_eq_true rfl)⟩) ⟨tQ_blind, va_recv hK hP (ci := 11) (q0 := 0) rfl rfl, tQ_at hP hK hev hdv hZ⟩ rfl rfl hl.1 rfl (lv_room (Nat.le_of_ble_eq_true rfl)) dX11_search_2 ⟨(Nat.le_of_ble_eq_true rfl), (Nat.le_of_ble_eq_true rfl)⟩) rfl hS hA (fun ce q9 H1 locs1 hz1 hk1 hS hce hcv hcl => ?_)
  exact vx_out (fun x h => (htb x h).elim) hlocks hce hcv hcl (fun t ht hvm => ⟨rfl, by rw [ht]; exact hz1, fun q h1 _ => by rw [ht]; exact hk1 q h1⟩) hS.2.2 (Nat.le_of_ble_eq_true rfl) (Nat.le_of_ble_eq_true rfl)
def wk_X11_count : List Cond := .code yX11_count cX11_count 2 (some .int) :: wU
set_option maxHeartbeats 4000000 in
set_option maxRecDepth 100000 in
theorem t_X11_count (l : Launch) (hst : l.stackTraces = false) (dC : Nat → ClassId) (dI : Nat → Nat → Nat) (h0 sz : Nat) (fs : List Value) (c0 : Int32) (hf : xF fs) : vx_Met l yX11_count wk_X11_count ({ frames := 9, cells := 1, slots := 6, locals := 174 } : Room) (tQ dC dI [(h0, .inr (11, fs))] sz [.ref h0, .int c0]) (fun _ _ _ _ => False) (px_X nIOO sz) 1 6 (nw sz) := by
  refine vx_ofW (cc := cX11_count) (maxL := 2) (ret := (some .int)) (by decide) rfl ?_
  intro p e s m args below meth c s₁ B hml htb hv
  obtain ⟨rfl, hsz, hP, hK, hev, hdv, hZ⟩ := hv
  have hx := B.exec
  have hb := B.bytes
  have hr := B.returns
  have hts := atoms_spec (ws := wk_X11_count) B.pre
  have hu : ∀ w ∈ wU, w.before ([.ref h0, .int c0] : List Value).toArray s = true := fun w h => hts w (List.mem_cons_of_mem _ h)
  have hown : s.vm.findClass RX11 = some m.cls := findClass_of_methodNamed B.named
  have hlocks := B.notSynchronized
  subst hsz
  have hA : ∀ q : Nat, s.heap.size ≤ q → nw s.heap.size q := fun _ h => h
  have hS : va_S (nw s.heap.size) s.heap s.heap [] := va_S.rf
  have hl := lv_entry ([.ref h0, .int c0]) (n := 2) (Nat.le_of_ble_eq_true rfl)
  rw [lg_entry_eq]
  generalize (lg_sl ([.ref h0, .int c0]) ++ List.replicate (2 - (lg_sl ([.ref h0, .int c0])).length) Slot.unset).toArray = ls at hl ⊢
  have hl : lv_has ls 2 [(0, .ref h0), (1, .int c0)] := hl
  refine lv_aload_n hx hb dX11_count_0 rfl (lv_at hl 0 rfl) ?_
  refine lv_aload_n hx hb dX11_count_1 rfl (lv_at hl 0 rfl) ?_
  refine lv_iload_n hx hb dX11_count_2 rfl (lv_at hl 1 rfl) ?_
  refine px_call (vx_runV (As := [.int c0]) (rest := [.ref h0]) ⟨hx, hb, hml, hown, hu⟩ (t_X11_restCurve l hst dC dI h0 _ fs (c0) hf) (cwV 1 hu (gV u434 u435 u436 u432 u437) rfl rfl rfl (by decide +kernel) ⟨(Nat.le_of_ble_eq_true rfl), (Nat.le_of_ble_eq_true rfl)⟩) ⟨tQ_blind, va_recv hK hP (ci := 11) (q0 := 0) rfl rfl, tQ_at hP hK hev hdv hZ⟩ rfl rfl hl.1 rfl (lv_room (Nat.le_of_ble_eq_true rfl)) dX11_count_3 ⟨(Nat.le_of_ble_eq_true rfl), (Nat.le_of_ble_eq_true rfl)⟩) rfl hS hA (fun ce q9 H1 locs1 hz1 hk1 hS hce hcv hcl => ?_)
  exact vx_out (fun x h => (htb x h).elim) hlocks hce hcv hcl (fun t ht hvm => ⟨rfl, by rw [ht]; exact hz1, fun q h1 _ => by rw [ht]; exact hk1 q h1⟩) hS.2.2 (Nat.le_of_ble_eq_true rfl) (Nat.le_of_ble_eq_true rfl)
def wk_X11_over : List Cond := .code yX11_over cX11_over 17 (some .long) :: wU
set_option maxHeartbeats 4000000 in
set_option maxRecDepth 100000 in
theorem t_X11_over (l : Launch) (hst : l.stackTraces = false) (dC : Nat → ClassId) (dI : Nat → Nat → Nat) (h0 sz : Nat) (fs : List Value) (c0 d0 : Int32) (hf : xF fs) : vx_Met l yX11_over wk_X11_over ({ frames := 9, cells := 1, slots := 6, locals := 174 } : Room) (tQ dC dI [(h0, .inr (11, fs))] sz [.ref h0, .int c0, .int d0]) (fun _ _ _ _ => False) (px_X nIOO sz) 1 6 (nw sz) := by
  refine vx_ofW (cc := cX11_over) (maxL := 17) (ret := (some .long)) (by decide) rfl ?_
  intro p e s m args below meth c s₁ B hml htb hv
  obtain ⟨rfl, hsz, hP, hK, hev, hdv, hZ⟩ := hv
  have hx := B.exec
  have hb := B.bytes
  have hr := B.returns
  have hts := atoms_spec (ws := wk_X11_over) B.pre
  have hu : ∀ w ∈ wU, w.before ([.ref h0, .int c0, .int d0] : List Value).toArray s = true := fun w h => hts w (List.mem_cons_of_mem _ h)
  have hown : s.vm.findClass RX11 = some m.cls := findClass_of_methodNamed B.named
  have hlocks := B.notSynchronized
  subst hsz
  have hA : ∀ q : Nat, s.heap.size ≤ q → nw s.heap.size q := fun _ h => h
  have hS : va_S (nw s.heap.size) s.heap s.heap [] := va_S.rf
  have hl := lv_entry ([.ref h0, .int c0, .int d0]) (n := 17) (Nat.le_of_ble_eq_true rfl)
  rw [lg_entry_eq]
  generalize (lg_sl ([.ref h0, .int c0, .int d0]) ++ List.replicate (17 - (lg_sl ([.ref h0, .int c0, .int d0])).length) Slot.unset).toArray = ls at hl ⊢
  have hl : lv_has ls 17 [(0, .ref h0), (1, .int c0), (2, .int d0)] := hl
  refine lv_aload_n hx hb dX11_over_0 rfl (lv_at hl 0 rfl) ?_
  refine lv_iload_n hx hb dX11_over_1 rfl (lv_at hl 1 rfl) ?_
  refine px_call (vx_runV (As := [.int c0]) (rest := []) ⟨hx, hb, hml, hown, hu⟩ (t_X11_restCurve l hst dC dI h0 _ fs (c0) hf) (cwV 1 hu (gV u434 u435 u436 u432 u437) rfl rfl rfl (by decide +kernel) ⟨(Nat.le_of_ble_eq_true rfl), (Nat.le_of_ble_eq_true rfl)⟩) ⟨tQ_blind, va_recv hK hP (ci := 11) (q0 := 0) rfl rfl, tQ_at hP hK hev hdv hZ⟩ rfl rfl hl.1 rfl (lv_room (Nat.le_of_ble_eq_true rfl)) dX11_over_2 ⟨(Nat.le_of_ble_eq_true rfl), (Nat.le_of_ble_eq_true rfl)⟩) rfl hS hA (fun ce q9 H1 locs1 hz1 hk1 hS hce hcv hcl => ?_)
  exact vx_out (fun x h => (htb x h).elim) hlocks hce hcv hcl (fun t ht hvm => ⟨rfl, by rw [ht]; exact hz1, fun q h1 _ => by rw [ht]; exact hk1 q h1⟩) hS.2.2 (Nat.le_of_ble_eq_true rfl) (Nat.le_of_ble_eq_true rfl)
def wk_X11_list : List Cond := .code yX11_list cX11_list 4 (some .int) :: wU
set_option maxHeartbeats 4000000 in
set_option maxRecDepth 100000 in
theorem t_X11_list (l : Launch) (hst : l.stackTraces = false) (dC : Nat → ClassId) (dI : Nat → Nat → Nat) (h0 sz : Nat) (fs : List Value) (c0 d0 : Int32) (hf : xF fs) : vx_Met l yX11_list wk_X11_list ({ frames := 10, cells := 1, slots := 6, locals := 196 } : Room) (tQ dC dI [(h0, .inr (11, fs))] sz [.ref h0, .int c0, .int d0]) (fun _ _ _ _ => False) (px_X nIOO sz) 1 6 (nw sz) := by
  refine vx_ofW (cc := cX11_list) (maxL := 4) (ret := (some .int)) (by decide) rfl ?_
  intro p e s m args below meth c s₁ B hml htb hv
  obtain ⟨rfl, hsz, hP, hK, hev, hdv, hZ⟩ := hv
  have hx := B.exec
  have hb := B.bytes
  have hr := B.returns
  have hts := atoms_spec (ws := wk_X11_list) B.pre
  have hu : ∀ w ∈ wU, w.before ([.ref h0, .int c0, .int d0] : List Value).toArray s = true := fun w h => hts w (List.mem_cons_of_mem _ h)
  have hown : s.vm.findClass RX11 = some m.cls := findClass_of_methodNamed B.named
  have hlocks := B.notSynchronized
  subst hsz
  have hA : ∀ q : Nat, s.heap.size ≤ q → nw s.heap.size q := fun _ h => h
  have hS : va_S (nw s.heap.size) s.heap s.heap [] := va_S.rf
  have hl := lv_entry ([.ref h0, .int c0, .int d0]) (n := 4) (Nat.le_of_ble_eq_true rfl)
  rw [lg_entry_eq]
  generalize (lg_sl ([.ref h0, .int c0, .int d0]) ++ List.replicate (4 - (lg_sl ([.ref h0, .int c0, .int d0])).length) Slot.unset).toArray = ls at hl ⊢
  have hl : lv_has ls 4 [(0, .ref h0), (1, .int c0), (2, .int d0)] := hl
  refine lv_aload_n hx hb dX11_list_0 rfl (lv_at hl 0 rfl) ?_
  refine lv_iload_n hx hb dX11_list_1 rfl (lv_at hl 1 rfl) ?_
  refine px_call (vx_runV (As := [.int c0]) (rest := []) ⟨hx, hb, hml, hown, hu⟩ (t_X11_listedCurve l hst dC dI h0 _ fs (c0) hf) (cwV 1 hu (gV u446 u447 u448 u432 u449) rfl rfl rfl (by decide +kernel) ⟨(Nat.le_of_ble_eq_true rfl), (Nat.le_of_ble_eq_true rfl)⟩) ⟨tQ_blind, va_recv hK hP (ci := 11) (q0 := 0) rfl rfl, tQ_at hP hK hev hdv hZ⟩ rfl rfl hl.1 rfl (lv_room (Nat.le_of_ble_eq_true rfl)) dX11_list_2 ⟨(Nat.le_of_ble_eq_true rfl), (Nat.le_of_ble_eq_true rfl)⟩) rfl hS hA (fun ce q9 H1 locs1 hz1 hk1 hS hce hcv hcl => ?_)
  exact vx_out (fun x h => (htb x h).elim) hlocks hce hcv hcl (fun t ht hvm => ⟨rfl, by rw [ht]; exact hz1, fun q h1 _ => by rw [ht]; exact hk1 q h1⟩) hS.2.2 (Nat.le_of_ble_eq_true rfl) (Nat.le_of_ble_eq_true rfl)
def wk_X11_group : List Cond := .code yX11_group cX11_group 4 (some .int) :: wU
set_option maxHeartbeats 4000000 in
set_option maxRecDepth 100000 in
theorem t_X11_group (l : Launch) (hst : l.stackTraces = false) (dC : Nat → ClassId) (dI : Nat → Nat → Nat) (h0 sz : Nat) (fs : List Value) (c0 d0 : Int32) (hf : xF fs) : vx_Met l yX11_group wk_X11_group ({ frames := 10, cells := 1, slots := 6, locals := 196 } : Room) (tQ dC dI [(h0, .inr (11, fs))] sz [.ref h0, .int c0, .int d0]) (fun _ _ _ _ => False) (px_X nIOO sz) 1 6 (nw sz) := by
  refine vx_ofW (cc := cX11_group) (maxL := 4) (ret := (some .int)) (by decide) rfl ?_
  intro p e s m args below meth c s₁ B hml htb hv
  obtain ⟨rfl, hsz, hP, hK, hev, hdv, hZ⟩ := hv
  have hx := B.exec
  have hb := B.bytes
  have hr := B.returns
  have hts := atoms_spec (ws := wk_X11_group) B.pre
  have hu : ∀ w ∈ wU, w.before ([.ref h0, .int c0, .int d0] : List Value).toArray s = true := fun w h => hts w (List.mem_cons_of_mem _ h)
  have hown : s.vm.findClass RX11 = some m.cls := findClass_of_methodNamed B.named
  have hlocks := B.notSynchronized
  subst hsz
  have hA : ∀ q : Nat, s.heap.size ≤ q → nw s.heap.size q := fun _ h => h
  have hS : va_S (nw s.heap.size) s.heap s.heap [] := va_S.rf
  have hl := lv_entry ([.ref h0, .int c0, .int d0]) (n := 4) (Nat.le_of_ble_eq_true rfl)
  rw [lg_entry_eq]
  generalize (lg_sl ([.ref h0, .int c0, .int d0]) ++ List.replicate (4 - (lg_sl ([.ref h0, .int c0, .int d0])).length) Slot.unset).toArray = ls at hl ⊢
  have hl : lv_has ls 4 [(0, .ref h0), (1, .int c0), (2, .int d0)] := hl
  refine lv_aload_n hx hb dX11_group_0 rfl (lv_at hl 0 rfl) ?_
  refine lv_iload_n hx hb dX11_group_1 rfl (lv_at hl 1 rfl) ?_
  refine px_call (vx_runV (As := [.int c0]) (rest := []) ⟨hx, hb, hml, hown, hu⟩ (t_X11_listedCurve l hst dC dI h0 _ fs (c0) hf) (cwV 1 hu (gV u446 u447 u448 u432 u449) rfl rfl rfl (by decide +kernel) ⟨(Nat.le_of_ble_eq_true rfl), (Nat.le_of_ble_eq_true rfl)⟩) ⟨tQ_blind, va_recv hK hP (ci := 11) (q0 := 0) rfl rfl, tQ_at hP hK hev hdv hZ⟩ rfl rfl hl.1 rfl (lv_room (Nat.le_of_ble_eq_true rfl)) dX11_group_2 ⟨(Nat.le_of_ble_eq_true rfl), (Nat.le_of_ble_eq_true rfl)⟩) rfl hS hA (fun ce q9 H1 locs1 hz1 hk1 hS hce hcv hcl => ?_)
  exact vx_out (fun x h => (htb x h).elim) hlocks hce hcv hcl (fun t ht hvm => ⟨rfl, by rw [ht]; exact hz1, fun q h1 _ => by rw [ht]; exact hk1 q h1⟩) hS.2.2 (Nat.le_of_ble_eq_true rfl) (Nat.le_of_ble_eq_true rfl)
def wk_X11_pair : List Cond := .code yX11_pair cX11_pair 7 (some .int) :: wU
set_option maxHeartbeats 4000000 in
set_option maxRecDepth 100000 in
theorem t_X11_pair (l : Launch) (hst : l.stackTraces = false) (dC : Nat → ClassId) (dI : Nat → Nat → Nat) (h0 sz : Nat) (fs : List Value) (c0 d0 e0 : Int32) (hf : xF fs) : vx_Met l yX11_pair wk_X11_pair ({ frames := 8, cells := 1, slots := 6, locals := 152 } : Room) (tQ dC dI [(h0, .inr (11, fs))] sz [.ref h0, .int c0, .int d0, .int e0]) (fun _ _ _ _ => False) (px_X nIOO sz) 1 6 (nw sz) := by
  refine vx_ofW (cc := cX11_pair) (maxL := 7) (ret := (some .int)) (by decide) rfl ?_
  intro p e s m args below meth c s₁ B hml htb hv
  obtain ⟨rfl, hsz, hP, hK, hev, hdv, hZ⟩ := hv
  have hx := B.exec
  have hb := B.bytes
  have hr := B.returns
  have hts := atoms_spec (ws := wk_X11_pair) B.pre
  have hu : ∀ w ∈ wU, w.before ([.ref h0, .int c0, .int d0, .int e0] : List Value).toArray s = true := fun w h => hts w (List.mem_cons_of_mem _ h)
  have hown : s.vm.findClass RX11 = some m.cls := findClass_of_methodNamed B.named
  have hlocks := B.notSynchronized
  subst hsz
  have hA : ∀ q : Nat, s.heap.size ≤ q → nw s.heap.size q := fun _ h => h
  have hS : va_S (nw s.heap.size) s.heap s.heap [] := va_S.rf
  have hl := lv_entry ([.ref h0, .int c0, .int d0, .int e0]) (n := 7) (Nat.le_of_ble_eq_true rfl)
  rw [lg_entry_eq]
  generalize (lg_sl ([.ref h0, .int c0, .int d0, .int e0]) ++ List.replicate (7 - (lg_sl ([.ref h0, .int c0, .int d0, .int e0])).length) Slot.unset).toArray = ls at hl ⊢
  have hl : lv_has ls 7 [(0, .ref h0), (1, .int c0), (2, .int d0), (3, .int e0)] := hl
  refine lv_aload_n hx hb dX11_pair_0 rfl (lv_at hl 0 rfl) ?_
  refine lv_iload_n hx hb dX11_pair_1 rfl (lv_at hl 1 rfl) ?_
  refine px_call (vx_runV (As := [.int c0]) (rest := []) ⟨hx, hb, hml, hown, hu⟩ (t_X11_spotAt l hst dC dI h0 _ fs (c0) hf) (cwV 1 hu (gV u442 u443 u444 u432 u445) rfl rfl rfl (by decide +kernel) ⟨(Nat.le_of_ble_eq_true rfl), (Nat.le_of_ble_eq_true rfl)⟩) ⟨tQ_blind, va_recv hK hP (ci := 11) (q0 := 0) rfl rfl, tQ_at hP hK hev hdv hZ⟩ rfl rfl hl.1 rfl (lv_room (Nat.le_of_ble_eq_true rfl)) dX11_pair_2 ⟨(Nat.le_of_ble_eq_true rfl), (Nat.le_of_ble_eq_true rfl)⟩) rfl hS hA (fun ce q9 H1 locs1 hz1 hk1 hS hce hcv hcl => ?_)
  exact vx_out (fun x h => (htb x h).elim) hlocks hce hcv hcl (fun t ht hvm => ⟨rfl, by rw [ht]; exact hz1, fun q h1 _ => by rw [ht]; exact hk1 q h1⟩) hS.2.2 (Nat.le_of_ble_eq_true rfl) (Nat.le_of_ble_eq_true rfl)
def wk_X11_polynomial : List Cond := .code yX11_polynomial cX11_polynomial 4 (some .int) :: wU
set_option maxHeartbeats 4000000 in
set_option maxRecDepth 100000 in
theorem t_X11_polynomial (l : Launch) (hst : l.stackTraces = false) (dC : Nat → ClassId) (dI : Nat → Nat → Nat) (h0 sz : Nat) (fs : List Value) (c0 d0 : Int32) (hf : xF fs) : vx_Met l yX11_polynomial wk_X11_polynomial ({ frames := 10, cells := 1, slots := 6, locals := 196 } : Room) (tQ dC dI [(h0, .inr (11, fs))] sz [.ref h0, .int c0, .int d0]) (fun _ _ _ _ => False) (px_X nIOO sz) 1 6 (nw sz) := by
  refine vx_ofW (cc := cX11_polynomial) (maxL := 4) (ret := (some .int)) (by decide) rfl ?_
  intro p e s m args below meth c s₁ B hml htb hv
  obtain ⟨rfl, hsz, hP, hK, hev, hdv, hZ⟩ := hv
  have hx := B.exec
  have hb := B.bytes
  have hr := B.returns
  have hts := atoms_spec (ws := wk_X11_polynomial) B.pre
  have hu : ∀ w ∈ wU, w.before ([.ref h0, .int c0, .int d0] : List Value).toArray s = true := fun w h => hts w (List.mem_cons_of_mem _ h)
  have hown : s.vm.findClass RX11 = some m.cls := findClass_of_methodNamed B.named
  have hlocks := B.notSynchronized
  subst hsz
  have hA : ∀ q : Nat, s.heap.size ≤ q → nw s.heap.size q := fun _ h => h
  have hS : va_S (nw s.heap.size) s.heap s.heap [] := va_S.rf
  have hl := lv_entry ([.ref h0, .int c0, .int d0]) (n := 4) (Nat.le_of_ble_eq_true rfl)
  rw [lg_entry_eq]
  generalize (lg_sl ([.ref h0, .int c0, .int d0]) ++ List.replicate (4 - (lg_sl ([.ref h0, .int c0, .int d0])).length) Slot.unset).toArray = ls at hl ⊢
  have hl : lv_has ls 4 [(0, .ref h0), (1, .int c0), (2, .int d0)] := hl
  refine lv_aload_n hx hb dX11_polynomial_0 rfl (lv_at hl 0 rfl) ?_
  refine lv_iload_n hx hb dX11_polynomial_1 rfl (lv_at hl 1 rfl) ?_
  refine px_call (vx_runV (As := [.int c0]) (rest := []) ⟨hx, hb, hml, hown, hu⟩ (t_X11_listedCurve l hst dC dI h0 _ fs (c0) hf) (cwV 1 hu (gV u446 u447 u448 u432 u449) rfl rfl rfl (by decide +kernel) ⟨(Nat.le_of_ble_eq_true rfl), (Nat.le_of_ble_eq_true rfl)⟩) ⟨tQ_blind, va_recv hK hP (ci := 11) (q0 := 0) rfl rfl, tQ_at hP hK hev hdv hZ⟩ rfl rfl hl.1 rfl (lv_room (Nat.le_of_ble_eq_true rfl)) dX11_polynomial_2 ⟨(Nat.le_of_ble_eq_true rfl), (Nat.le_of_ble_eq_true rfl)⟩) rfl hS hA (fun ce q9 H1 locs1 hz1 hk1 hS hce hcv hcl => ?_)
  exact vx_out (fun x h => (htb x h).elim) hlocks hce hcv hcl (fun t ht hvm => ⟨rfl, by rw [ht]; exact hz1, fun q h1 _ => by rw [ht]; exact hk1 q h1⟩) hS.2.2 (Nat.le_of_ble_eq_true rfl) (Nat.le_of_ble_eq_true rfl)
def wk_X11_led : List Cond := .code yX11_led cX11_led 5 (some .int) :: wU
set_option maxHeartbeats 4000000 in
set_option maxRecDepth 100000 in
theorem t_X11_led (l : Launch) (hst : l.stackTraces = false) (dC : Nat → ClassId) (dI : Nat → Nat → Nat) (h0 sz : Nat) (fs : List Value) (c0 : Int32) (hf : xF fs) : vx_Met l yX11_led wk_X11_led ({ frames := 8, cells := 1, slots := 6, locals := 152 } : Room) (tQ dC dI [(h0, .inr (11, fs))] sz [.ref h0, .int c0]) (fun _ _ _ _ => False) (px_X nIOO sz) 1 6 (nw sz) := by
  refine vx_ofW (cc := cX11_led) (maxL := 5) (ret := (some .int)) (by decide) rfl ?_
  intro p e s m args below meth c s₁ B hml htb hv
  obtain ⟨rfl, hsz, hP, hK, hev, hdv, hZ⟩ := hv
  have hx := B.exec
  have hb := B.bytes
  have hr := B.returns
  have hts := atoms_spec (ws := wk_X11_led) B.pre
  have hu : ∀ w ∈ wU, w.before ([.ref h0, .int c0] : List Value).toArray s = true := fun w h => hts w (List.mem_cons_of_mem _ h)
  have hown : s.vm.findClass RX11 = some m.cls := findClass_of_methodNamed B.named
  have hlocks := B.notSynchronized
  subst hsz
  have hA : ∀ q : Nat, s.heap.size ≤ q → nw s.heap.size q := fun _ h => h
  have hS : va_S (nw s.heap.size) s.heap s.heap [] := va_S.rf
  have hl := lv_entry ([.ref h0, .int c0]) (n := 5) (Nat.le_of_ble_eq_true rfl)
  rw [lg_entry_eq]
  generalize (lg_sl ([.ref h0, .int c0]) ++ List.replicate (5 - (lg_sl ([.ref h0, .int c0])).length) Slot.unset).toArray = ls at hl ⊢
  have hl : lv_has ls 5 [(0, .ref h0), (1, .int c0)] := hl
  refine lv_aload_n hx hb dX11_led_0 rfl (lv_at hl 0 rfl) ?_
  refine lv_iload_n hx hb dX11_led_1 rfl (lv_at hl 1 rfl) ?_
  refine px_call (vx_runV (As := [.int c0]) (rest := []) ⟨hx, hb, hml, hown, hu⟩ (t_X11_spotAt l hst dC dI h0 _ fs (c0) hf) (cwV 1 hu (gV u442 u443 u444 u432 u445) rfl rfl rfl (by decide +kernel) ⟨(Nat.le_of_ble_eq_true rfl), (Nat.le_of_ble_eq_true rfl)⟩) ⟨tQ_blind, va_recv hK hP (ci := 11) (q0 := 0) rfl rfl, tQ_at hP hK hev hdv hZ⟩ rfl rfl hl.1 rfl (lv_room (Nat.le_of_ble_eq_true rfl)) dX11_led_2 ⟨(Nat.le_of_ble_eq_true rfl), (Nat.le_of_ble_eq_true rfl)⟩) rfl hS hA (fun ce q9 H1 locs1 hz1 hk1 hS hce hcv hcl => ?_)
  exact vx_out (fun x h => (htb x h).elim) hlocks hce hcv hcl (fun t ht hvm => ⟨rfl, by rw [ht]; exact hz1, fun q h1 _ => by rw [ht]; exact hk1 q h1⟩) hS.2.2 (Nat.le_of_ble_eq_true rfl) (Nat.le_of_ble_eq_true rfl)
def wk_X11_through : List Cond := .code yX11_through cX11_through 9 (some .int) :: wU
set_option maxHeartbeats 4000000 in
set_option maxRecDepth 100000 in
theorem t_X11_through (l : Launch) (hst : l.stackTraces = false) (dC : Nat → ClassId) (dI : Nat → Nat → Nat) (h0 sz : Nat) (fs : List Value) (c0 d0 : Int32) (hf : xF fs) : vx_Met l yX11_through wk_X11_through ({ frames := 8, cells := 1, slots := 6, locals := 152 } : Room) (tQ dC dI [(h0, .inr (11, fs))] sz [.ref h0, .int c0, .int d0]) (fun _ _ _ _ => False) (px_X nIOO sz) 1 6 (nw sz) := by
  refine vx_ofW (cc := cX11_through) (maxL := 9) (ret := (some .int)) (by decide) rfl ?_
  intro p e s m args below meth c s₁ B hml htb hv
  obtain ⟨rfl, hsz, hP, hK, hev, hdv, hZ⟩ := hv
  have hx := B.exec
  have hb := B.bytes
  have hr := B.returns
  have hts := atoms_spec (ws := wk_X11_through) B.pre
  have hu : ∀ w ∈ wU, w.before ([.ref h0, .int c0, .int d0] : List Value).toArray s = true := fun w h => hts w (List.mem_cons_of_mem _ h)
  have hown : s.vm.findClass RX11 = some m.cls := findClass_of_methodNamed B.named
  have hlocks := B.notSynchronized
  subst hsz
  have hA : ∀ q : Nat, s.heap.size ≤ q → nw s.heap.size q := fun _ h => h
  have hS : va_S (nw s.heap.size) s.heap s.heap [] := va_S.rf
  have hl := lv_entry ([.ref h0, .int c0, .int d0]) (n := 9) (Nat.le_of_ble_eq_true rfl)
  rw [lg_entry_eq]
  generalize (lg_sl ([.ref h0, .int c0, .int d0]) ++ List.replicate (9 - (lg_sl ([.ref h0, .int c0, .int d0])).length) Slot.unset).toArray = ls at hl ⊢
  have hl : lv_has ls 9 [(0, .ref h0), (1, .int c0), (2, .int d0)] := hl
  refine lv_aload_n hx hb dX11_through_0 rfl (lv_at hl 0 rfl) ?_
  refine lv_iload_n hx hb dX11_through_1 rfl (lv_at hl 1 rfl) ?_
  refine px_call (vx_runV (As := [.int c0]) (rest := []) ⟨hx, hb, hml, hown, hu⟩ (t_X11_spotAt l hst dC dI h0 _ fs (c0) hf) (cwV 1 hu (gV u442 u443 u444 u432 u445) rfl rfl rfl (by decide +kernel) ⟨(Nat.le_of_ble_eq_true rfl), (Nat.le_of_ble_eq_true rfl)⟩) ⟨tQ_blind, va_recv hK hP (ci := 11) (q0 := 0) rfl rfl, tQ_at hP hK hev hdv hZ⟩ rfl rfl hl.1 rfl (lv_room (Nat.le_of_ble_eq_true rfl)) dX11_through_2 ⟨(Nat.le_of_ble_eq_true rfl), (Nat.le_of_ble_eq_true rfl)⟩) rfl hS hA (fun ce q9 H1 locs1 hz1 hk1 hS hce hcv hcl => ?_)
  exact vx_out (fun x h => (htb x h).elim) hlocks hce hcv hcl (fun t ht hvm => ⟨rfl, by rw [ht]; exact hz1, fun q h1 _ => by rw [ht]; exact hk1 q h1⟩) hS.2.2 (Nat.le_of_ble_eq_true rfl) (Nat.le_of_ble_eq_true rfl)
