/-- a method on the bench's object x and its row of curves, that makes what it needs -/
def kP (dC : Nat → ClassId) (dI : Nat → Nat → Nat) (ws : va_W) (tys : List (ClassId × FieldType)) (sz : Nat) (av : List Value) : Array Value → State → Prop := va_Pc av (fun U => U.heap.size = sz ∧ va_P (dC, dI) clx ws U.heap ∧ va_K (dC, dI) clx tys U ∧ va_D (fun _ => True) ws ∧ ev U)
theorem kP_blind {dC : Nat → ClassId} {dI : Nat → Nat → Nat} {ws : va_W} {tys : List (ClassId × FieldType)} {sz : Nat} {av : List Value} : FrameBlind (kP dC dI ws tys sz av) := fun a U g mk q => by
  obtain ⟨q0, q1, qP, qK, qD, qE⟩ := q
  exact ⟨q0, q1, qP, va_K.moved (u := U) (U := U.calling g mk a) (Vm.Alike.refl U.vm) qK, qD, qE.calling g mk a⟩
theorem kP_at {dC : Nat → ClassId} {dI : Nat → Nat → Nat} {ws : va_W} {tys : List (ClassId × FieldType)} {H : Heap} {av : List Value} {s : State} {A : Nat → Prop} (hP : va_P (dC, dI) clx ws H) (hK : va_K (dC, dI) clx tys s) (hD : va_D A ws) (hE : ev s) : ∀ U : State, U.heap = H → s.WarmedH U.vm → kP dC dI ws tys H.size av av.toArray U :=
  fun U hU hW => ⟨rfl, by rw [hU], by rw [hU]; exact hP, va_K.moved hW.alike hK, hD.weaken (fun _ _ _ _ => trivial), hE.warm hW⟩
def xG (fs : List Value) (qc : Nat) : Prop := fs[0]? = some (.ref qc) ∧ fs[1]? = some (.int 0) ∧ fs.length = 16
set_option maxRecDepth 100000 in
theorem at_IAE {args : Array Value} {s : State} (hu : ∀ w ∈ wU, w.before args s = true) (hev : ev s) (hdv : dv s) : ∀ w ∈ vx_atS RX11 97 "java/lang/IllegalArgumentException" ["java/lang/RuntimeException", "java/lang/Exception"], w.before args s = true := by
  have key : ∀ w ∈ Bundle.ownAtoms RX11 97 "java/lang/IllegalArgumentException" ["java/lang/RuntimeException", "java/lang/Exception"], vx_no w = true → w.before args s = true := by
    simp only [Bundle.ownAtoms, Bundle.throwableAtoms, Bundle.throwableSAtoms, Bundle.chainSAtoms, Bundle.passSAtoms, List.cons_append, List.nil_append, List.append_assoc, List.forall_mem_cons]
    exact ⟨fun _ => hu _ u543, fun _ => hu _ u544, fun _ => hu _ u545, fun _ => hu _ u546, fun _ => hu _ u547, fun _ => hu _ u548, fun _ => hu _ u549, fun _ => hu _ u550, fun _ => hu _ u1, fun _ => hu _ u2, fun _ => hu _ u551, fun _ => hu _ u552, fun _ => hu _ u553, fun _ => hu _ u554, fun _ => hu _ u555, fun _ => hu _ u556, fun _ => hu _ u557, fun _ => hu _ u558, fun _ => hu _ u559, fun _ => hu _ u560, fun h9 => absurd h9 (by decide +kernel), fun _ => hu _ u561, fun h9 => absurd h9 (by decide +kernel), fun _ => hu _ u562, fun _ => hu _ u563, fun _ => hu _ u564, fun _ => hu _ u565, fun _ => hu _ u562, fun _ => hu _ u639, fun _ => hu _ u640, fun _ => hu _ u641, fun _ => hu _ u569, fun _ => va_Nw.use rfl hdv.1, fun _ => hu _ u569, fun _ => hu _ u570, fun _ => hu _ u571, fun _ => hu _ u572, fun _ => va_Nw.use rfl hdv.2.1, fun _ => hu _ u572, fun _ => hu _ u573, fun _ => hu _ u574, fun _ => hu _ u563, fun _ => va_Nw.use rfl hdv.2.2, fun _ => hu _ u642, fun _ => hu _ u643, fun _ => va_Nw.use rfl hev.2.2.2.1.2, fun _ => hu _ u644, fun _ => hu _ u645, fun _ => hu _ u646, fun _ => hu _ u647, fun _ => hu _ u648, fun _ => hu _ u649, fun h9 => absurd h9 (by decide +kernel), fun h9 => absurd h9 (by decide +kernel), fun _ => hu _ u583, fun _ => hu _ u584, fun _ => hu _ u650, fun _ h => absurd h List.not_mem_nil⟩
  exact fun w hw => key w (List.mem_filter.mp hw).1 (List.mem_filter.mp hw).2
set_option maxRecDepth 100000 in
theorem ot_IAE (ik : Nat) : ∀ w ∈ Cond.classLink RX11 ik "java/lang/IllegalArgumentException" :: Cond.initialized "java/lang/IllegalArgumentException" :: vx_atS RX11 97 "java/lang/IllegalArgumentException" ["java/lang/RuntimeException", "java/lang/Exception"], vx_ot w = true := by
  have key : ∀ w ∈ Bundle.ownAtoms RX11 97 "java/lang/IllegalArgumentException" ["java/lang/RuntimeException", "java/lang/Exception"], vx_no w = true → vx_ot w = true := by
    simp only [Bundle.ownAtoms, Bundle.throwableAtoms, Bundle.throwableSAtoms, Bundle.chainSAtoms, Bundle.passSAtoms, List.cons_append, List.nil_append, List.append_assoc, List.forall_mem_cons]
    exact ⟨fun _ => rfl, fun _ => rfl, fun _ => rfl, fun _ => rfl, fun _ => rfl, fun _ => rfl, fun _ => rfl, fun _ => rfl, fun _ => rfl, fun _ => rfl, fun _ => rfl, fun _ => rfl, fun _ => rfl, fun _ => rfl, fun _ => rfl, fun _ => rfl, fun _ => rfl, fun _ => rfl, fun _ => rfl, fun _ => rfl, fun h9 => absurd h9 (by decide +kernel), fun _ => rfl, fun h9 => absurd h9 (by decide +kernel), fun _ => rfl, fun _ => rfl, fun _ => rfl, fun _ => rfl, fun _ => rfl, fun _ => rfl, fun _ => rfl, fun _ => rfl, fun _ => rfl, fun _ => rfl, fun _ => rfl, fun _ => rfl, fun _ => rfl, fun _ => rfl, fun _ => rfl, fun _ => rfl, fun _ => rfl, fun _ => rfl, fun _ => rfl, fun _ => rfl, fun _ => rfl, fun _ => rfl, fun _ => rfl, fun _ => rfl, fun _ => rfl, fun _ => rfl, fun _ => rfl, fun _ => rfl, fun _ => rfl, fun h9 => absurd h9 (by decide +kernel), fun h9 => absurd h9 (by decide +kernel), fun _ => rfl, fun _ => rfl, fun _ => rfl, fun _ h => absurd h List.not_mem_nil⟩
  exact List.forall_mem_cons.mpr ⟨rfl, List.forall_mem_cons.mpr ⟨rfl, fun w hw => key w (List.mem_filter.mp hw).1 (List.mem_filter.mp hw).2⟩⟩
theorem dL_cubic_0 : decode cL_cubic 0 = .ok (.aload_n 3, 1) := by decide +kernel
theorem dL_cubic_1 : decode cL_cubic 1 = .ok (.iconst 0, 1) := by decide +kernel
theorem dL_cubic_2 : decode cL_cubic 2 = .ok (.aload_n 0, 1) := by decide +kernel
theorem dL_cubic_3 : decode cL_cubic 3 = .ok (.iload_n 1, 1) := by decide +kernel
theorem dL_cubic_4 : decode cL_cubic 4 = .ok (.iload_n 2, 1) := by decide +kernel
theorem dL_cubic_5 : decode cL_cubic 5 = .ok (.invokevirtual 7, 3) := by decide +kernel
theorem dL_cubic_8 : decode cL_cubic 8 = .ok (.i2l, 1) := by decide +kernel
theorem dL_cubic_9 : decode cL_cubic 9 = .ok (.lastore, 1) := by decide +kernel
theorem dL_cubic_10 : decode cL_cubic 10 = .ok (.goto 11, 3) := by decide +kernel
theorem dL_cubic_13 : decode cL_cubic 13 = .ok (.astore 4, 2) := by decide +kernel
theorem dL_cubic_15 : decode cL_cubic 15 = .ok (.iconst 1, 1) := by decide +kernel
theorem dL_cubic_16 : decode cL_cubic 16 = .ok (.ireturn, 1) := by decide +kernel
theorem dL_cubic_21 : decode cL_cubic 21 = .ok (.iconst 0, 1) := by decide +kernel
theorem dL_cubic_22 : decode cL_cubic 22 = .ok (.ireturn, 1) := by decide +kernel
theorem dX11_cubic_0 : decode cX11_cubic 0 = .ok (.iload_n 1, 1) := by decide +kernel
theorem dX11_cubic_1 : decode cX11_cubic 1 = .ok (.sipush (-10000), 3) := by decide +kernel
theorem dX11_cubic_4 : decode cX11_cubic 4 = .ok (.if_icmp .lt 24, 3) := by decide +kernel
theorem dX11_cubic_7 : decode cX11_cubic 7 = .ok (.iload_n 1, 1) := by decide +kernel
theorem dX11_cubic_8 : decode cX11_cubic 8 = .ok (.sipush 10000, 3) := by decide +kernel
theorem dX11_cubic_11 : decode cX11_cubic 11 = .ok (.if_icmp .gt 17, 3) := by decide +kernel
theorem dX11_cubic_14 : decode cX11_cubic 14 = .ok (.iload_n 2, 1) := by decide +kernel
theorem dX11_cubic_15 : decode cX11_cubic 15 = .ok (.sipush (-10000), 3) := by decide +kernel
theorem dX11_cubic_18 : decode cX11_cubic 18 = .ok (.if_icmp .lt 10, 3) := by decide +kernel
theorem dX11_cubic_21 : decode cX11_cubic 21 = .ok (.iload_n 2, 1) := by decide +kernel
theorem dX11_cubic_22 : decode cX11_cubic 22 = .ok (.sipush 10000, 3) := by decide +kernel
theorem dX11_cubic_25 : decode cX11_cubic 25 = .ok (.if_icmp .le 13, 3) := by decide +kernel
theorem dX11_cubic_28 : decode cX11_cubic 28 = .ok (.new 93, 3) := by decide +kernel
theorem dX11_cubic_31 : decode cX11_cubic 31 = .ok (.dup, 1) := by decide +kernel
theorem dX11_cubic_32 : decode cX11_cubic 32 = .ok (.ldc 95, 2) := by decide +kernel
theorem dX11_cubic_34 : decode cX11_cubic 34 = .ok (.invokespecial 97, 3) := by decide +kernel
theorem dX11_cubic_37 : decode cX11_cubic 37 = .ok (.athrow, 1) := by decide +kernel
theorem dX11_cubic_38 : decode cX11_cubic 38 = .ok (.iload_n 1, 1) := by decide +kernel
theorem dX11_cubic_39 : decode cX11_cubic 39 = .ok (.i2l, 1) := by decide +kernel
theorem dX11_cubic_40 : decode cX11_cubic 40 = .ok (.iload_n 2, 1) := by decide +kernel
theorem dX11_cubic_41 : decode cX11_cubic 41 = .ok (.i2l, 1) := by decide +kernel
theorem dX11_cubic_42 : decode cX11_cubic 42 = .ok (.lconst 0, 1) := by decide +kernel
theorem dX11_cubic_43 : decode cX11_cubic 43 = .ok (.invokestatic 100, 3) := by decide +kernel
theorem dX11_cubic_46 : decode cX11_cubic 46 = .ok (.lconst 0, 1) := by decide +kernel
theorem dX11_cubic_47 : decode cX11_cubic 47 = .ok (.lcmp, 1) := by decide +kernel
theorem dX11_cubic_48 : decode cX11_cubic 48 = .ok (.ifCond .ne 7, 3) := by decide +kernel
theorem dX11_cubic_51 : decode cX11_cubic 51 = .ok (.iconst (-1), 1) := by decide +kernel
theorem dX11_cubic_52 : decode cX11_cubic 52 = .ok (.goto 10, 3) := by decide +kernel
theorem dX11_cubic_55 : decode cX11_cubic 55 = .ok (.aload_n 0, 1) := by decide +kernel
theorem dX11_cubic_56 : decode cX11_cubic 56 = .ok (.iload_n 1, 1) := by decide +kernel
theorem dX11_cubic_57 : decode cX11_cubic 57 = .ok (.iload_n 2, 1) := by decide +kernel
theorem dX11_cubic_58 : decode cX11_cubic 58 = .ok (.iconst 0, 1) := by decide +kernel
theorem dX11_cubic_59 : decode cX11_cubic 59 = .ok (.invokevirtual 104, 3) := by decide +kernel
theorem dX11_cubic_62 : decode cX11_cubic 62 = .ok (.ireturn, 1) := by decide +kernel
theorem dX11_keptCurve_0 : decode cX11_keptCurve 0 = .ok (.aload_n 0, 1) := by decide +kernel
theorem dX11_keptCurve_1 : decode cX11_keptCurve 1 = .ok (.iload_n 1, 1) := by decide +kernel
theorem dX11_keptCurve_2 : decode cX11_keptCurve 2 = .ok (.iload_n 2, 1) := by decide +kernel
theorem dX11_keptCurve_3 : decode cX11_keptCurve 3 = .ok (.iload_n 3, 1) := by decide +kernel
theorem dX11_keptCurve_4 : decode cX11_keptCurve 4 = .ok (.invokevirtual 379, 3) := by decide +kernel
theorem dX11_keptCurve_7 : decode cX11_keptCurve 7 = .ok (.istore 4, 2) := by decide +kernel
theorem dX11_keptCurve_9 : decode cX11_keptCurve 9 = .ok (.iload 4, 2) := by decide +kernel
theorem dX11_keptCurve_11 : decode cX11_keptCurve 11 = .ok (.iconst (-1), 1) := by decide +kernel
theorem dX11_keptCurve_12 : decode cX11_keptCurve 12 = .ok (.if_icmp .eq 6, 3) := by decide +kernel
theorem dX11_keptCurve_18 : decode cX11_keptCurve 18 = .ok (.aload_n 0, 1) := by decide +kernel
theorem dX11_keptCurve_19 : decode cX11_keptCurve 19 = .ok (.getfield 363, 3) := by decide +kernel
theorem dX11_keptCurve_22 : decode cX11_keptCurve 22 = .ok (.bipush 40, 2) := by decide +kernel
theorem dX11_keptCurve_24 : decode cX11_keptCurve 24 = .ok (.if_icmp .lt 14, 3) := by decide +kernel
theorem dX11_keptCurve_38 : decode cX11_keptCurve 38 = .ok (.aload_n 0, 1) := by decide +kernel
theorem dX11_keptCurve_39 : decode cX11_keptCurve 39 = .ok (.getfield 11, 3) := by decide +kernel
theorem dX11_keptCurve_42 : decode cX11_keptCurve 42 = .ok (.aload_n 0, 1) := by decide +kernel
theorem dX11_keptCurve_43 : decode cX11_keptCurve 43 = .ok (.getfield 363, 3) := by decide +kernel
theorem dX11_keptCurve_46 : decode cX11_keptCurve 46 = .ok (.new 9, 3) := by decide +kernel
theorem dX11_keptCurve_49 : decode cX11_keptCurve 49 = .ok (.dup, 1) := by decide +kernel
theorem dX11_keptCurve_50 : decode cX11_keptCurve 50 = .ok (.iload_n 1, 1) := by decide +kernel
theorem dX11_keptCurve_51 : decode cX11_keptCurve 51 = .ok (.iload_n 2, 1) := by decide +kernel
theorem dX11_keptCurve_52 : decode cX11_keptCurve 52 = .ok (.iload_n 3, 1) := by decide +kernel
theorem dX11_keptCurve_53 : decode cX11_keptCurve 53 = .ok (.invokespecial 387, 3) := by decide +kernel
theorem dX11_keptCurve_56 : decode cX11_keptCurve 56 = .ok (.aastore, 1) := by decide +kernel
theorem dX11_keptCurve_57 : decode cX11_keptCurve 57 = .ok (.aload_n 0, 1) := by decide +kernel
theorem dX11_keptCurve_58 : decode cX11_keptCurve 58 = .ok (.dup, 1) := by decide +kernel
theorem dX11_keptCurve_59 : decode cX11_keptCurve 59 = .ok (.getfield 363, 3) := by decide +kernel
theorem dX11_keptCurve_62 : decode cX11_keptCurve 62 = .ok (.dup_x1, 1) := by decide +kernel
theorem dX11_keptCurve_63 : decode cX11_keptCurve 63 = .ok (.iconst 1, 1) := by decide +kernel
theorem dX11_keptCurve_64 : decode cX11_keptCurve 64 = .ok (.iadd, 1) := by decide +kernel
theorem dX11_keptCurve_65 : decode cX11_keptCurve 65 = .ok (.putfield 363, 3) := by decide +kernel
theorem dX11_keptCurve_68 : decode cX11_keptCurve 68 = .ok (.ireturn, 1) := by decide +kernel
theorem dX11_numberOfCurve_0 : decode cX11_numberOfCurve 0 = .ok (.iconst 0, 1) := by decide +kernel
theorem dX11_numberOfCurve_1 : decode cX11_numberOfCurve 1 = .ok (.istore 4, 2) := by decide +kernel
theorem dX11_numberOfCurve_3 : decode cX11_numberOfCurve 3 = .ok (.iload 4, 2) := by decide +kernel
theorem dX11_numberOfCurve_5 : decode cX11_numberOfCurve 5 = .ok (.aload_n 0, 1) := by decide +kernel
theorem dX11_numberOfCurve_6 : decode cX11_numberOfCurve 6 = .ok (.getfield 363, 3) := by decide +kernel
theorem dX11_numberOfCurve_9 : decode cX11_numberOfCurve 9 = .ok (.if_icmp .ge 63, 3) := by decide +kernel
theorem dX11_numberOfCurve_72 : decode cX11_numberOfCurve 72 = .ok (.iconst (-1), 1) := by decide +kernel
theorem dX11_numberOfCurve_73 : decode cX11_numberOfCurve 73 = .ok (.ireturn, 1) := by decide +kernel
def wk_X11_numberOfCurve : List Cond := .code yX11_numberOfCurve cX11_numberOfCurve 6 (some .int) :: wU
set_option maxHeartbeats 4000000 in
set_option maxRecDepth 100000 in
theorem r_X11_numberOfCurve (l : Launch) (dC : Nat → ClassId) (dI : Nat → Nat → Nat) (h0 sz : Nat) (fs : List Value) (c0 d0 e0 : Int32) (h1 : fs[1]? = some (.int 0)) : Met l yX11_numberOfCurve wk_X11_numberOfCurve ({ frames := 7, cells := 0, slots := 0, locals := 130 } : Room) (mP dC dI [(h0, .inr (11, fs))] [] sz [.ref h0, .int c0, .int d0, .int e0]) (va_Qi (S := Unit) (fun r _ => r = -1) (fun _ _ => True) (nw sz)) 0 0 (nw sz) := by
  refine Met.ofW (cc := cX11_numberOfCurve) (maxL := 6) (ret := (some .int)) (by decide) rfl ?_
  intro p e s m args below meth c s₁ B hml hv
  obtain ⟨rfl, hsz, hP, hK, hD0⟩ := hv
  have hx := B.exec
  have hb := B.bytes
  have hr := B.returns
  have hts := atoms_spec (ws := wk_X11_numberOfCurve) B.pre
  have hu : ∀ w ∈ wU, w.before ([.ref h0, .int c0, .int d0, .int e0] : List Value).toArray s = true := fun w h => hts w (List.mem_cons_of_mem _ h)
  have hown : s.vm.findClass RX11 = some m.cls := findClass_of_methodNamed B.named
  have hlocks := B.notSynchronized
  subst hsz
  have hA : ∀ q : Nat, s.heap.size ≤ q → nw s.heap.size q := fun _ h => h
  have hS : va_S (nw s.heap.size) s.heap s.heap [] := va_S.rf
  have hl := lv_entry ([.ref h0, .int c0, .int d0, .int e0]) (n := 6) (Nat.le_of_ble_eq_true rfl)
  rw [lg_entry_eq]
  generalize (lg_sl ([.ref h0, .int c0, .int d0, .int e0]) ++ List.replicate (6 - (lg_sl ([.ref h0, .int c0, .int d0, .int e0])).length) Slot.unset).toArray = ls at hl ⊢
  have hl : lv_has ls 6 [(0, .ref h0), (1, .int c0), (2, .int d0), (3, .int e0)] := hl
  refine lv_iconst (v := 0) hx hb dX11_numberOfCurve_0 (by decide) ?_
  refine lv_istore (lv' := [(4, .int 0), (0, .ref h0), (1, .int c0), (2, .int d0), (3, .int e0)]) hx hb dX11_numberOfCurve_1 hl (by decide) rfl (fun ls hl => ?_)
  refine lv_iload hx hb dX11_numberOfCurve_3 (lv_at hl 0 rfl) ?_
  refine lv_aload_n hx hb dX11_numberOfCurve_5 rfl (lv_at hl 1 rfl) ?_
  refine va_get (D := (dC, dI)) (ci := 11) (v := .int 0) (C := RX11) (T := TX11) (N := 16) hx hb hu iX11 hown hK hP 0 rfl rfl 1 (by decide) (hu _ u426) (fun _ h9 => h9) h1 dX11_numberOfCurve_6 ?_
  refine lv_icmp_ge (tgt := 72) hx hb dX11_numberOfCurve_9 (by decide) (fun _ => ?_) (fun h9 => absurd (by decide) h9)
  refine lv_iconst (v := (-1)) hx hb dX11_numberOfCurve_72 (by decide) ?_
  exact W.iret (v := (-1)) hx hb hr (fun t ht hW => ⟨⟨(-1), (), rfl, rfl, trivial⟩, hS.F ht⟩) hS.2.2 dX11_numberOfCurve_73
def wk_X11_keptCurve : List Cond := .code yX11_keptCurve cX11_keptCurve 5 (some .int) :: wU
set_option maxHeartbeats 4000000 in
set_option maxRecDepth 100000 in
theorem r_X11_keptCurve (l : Launch) (dC : Nat → ClassId) (dI : Nat → Nat → Nat) (h0 sz : Nat) (fs : List Value) (qc : Nat) (cC : ClassId) (c0 d0 : Int32) (hg : xG fs qc) : Met l yX11_keptCurve wk_X11_keptCurve ({ frames := 8, cells := 1, slots := 4, locals := 155 } : Room) (kP dC dI [(h0, .inr (11, fs)), (qc, .inl (cC, 40, .inr (.inr (.inr (.inr (fun _ => none))))))] [(cC, .object RX2)] sz [.ref h0, .int c0, .int d0, .int 0]) (va_Qi (S := Unit) (fun r _ => r = 0) (fun _ _ => True) (va_A [(h0, .inr (11, fs)), (qc, .inl (cC, 40, .inr (.inr (.inr (.inr (fun _ => none))))))] sz)) 1 4 (va_A [(h0, .inr (11, fs)), (qc, .inl (cC, 40, .inr (.inr (.inr (.inr (fun _ => none))))))] sz) := by
  refine Met.ofW (cc := cX11_keptCurve) (maxL := 5) (ret := (some .int)) (by decide) rfl ?_
  intro p e s m args below meth c s₁ B hml hv
  obtain ⟨rfl, hsz, hP, hK, hD0, hev⟩ := hv
  have hx := B.exec
  have hb := B.bytes
  have hr := B.returns
  have hts := atoms_spec (ws := wk_X11_keptCurve) B.pre
  have hu : ∀ w ∈ wU, w.before ([.ref h0, .int c0, .int d0, .int 0] : List Value).toArray s = true := fun w h => hts w (List.mem_cons_of_mem _ h)
  have hown : s.vm.findClass RX11 = some m.cls := findClass_of_methodNamed B.named
  have hlocks := B.notSynchronized
  subst hsz
  have hD := hD0.self (sz := s.heap.size)
  generalize hAe : va_A [(h0, .inr (11, fs)), (qc, .inl (cC, 40, .inr (.inr (.inr (.inr (fun _ => none))))))] s.heap.size = A at hD ⊢
  have hA : ∀ q : Nat, s.heap.size ≤ q → A q := fun q h => by rw [← hAe]; exact Or.inr h
  have hS : va_S A s.heap s.heap [] := va_S.rf
  have hl := lv_entry ([.ref h0, .int c0, .int d0, .int 0]) (n := 5) (Nat.le_of_ble_eq_true rfl)
  rw [lg_entry_eq]
  generalize (lg_sl ([.ref h0, .int c0, .int d0, .int 0]) ++ List.replicate (5 - (lg_sl ([.ref h0, .int c0, .int d0, .int 0])).length) Slot.unset).toArray = ls at hl ⊢
  have hl : lv_has ls 5 [(0, .ref h0), (1, .int c0), (2, .int d0), (3, .int 0)] := hl
  refine lv_aload_n hx hb dX11_keptCurve_0 rfl (lv_at hl 0 rfl) ?_
  refine lv_iload_n hx hb dX11_keptCurve_1 rfl (lv_at hl 1 rfl) ?_
  refine lv_iload_n hx hb dX11_keptCurve_2 rfl (lv_at hl 2 rfl) ?_
  refine lv_iload_n hx hb dX11_keptCurve_3 rfl (lv_at hl 3 rfl) ?_
  have hPc := hP.sub (ws' := [(h0, .inr (11, fs))]) [0] rfl
  have hDc := hD.sub (ws' := [(h0, .inr (11, fs))]) [0] (by decide) rfl
  have hKc := hK.sub (tys' := []) [] rfl
  refine va_calli (va_runV (As := [.int c0, .int d0, .int 0]) (rest := []) ⟨hx, hb, hml, hown, hu⟩ (r_X11_numberOfCurve l dC dI h0 _ fs c0 d0 0 hg.2.1) (cwV 3 hu (gV u616 u617 u618 u432 u619) rfl rfl rfl (by decide +kernel) ⟨(Nat.le_of_ble_eq_true rfl), (Nat.le_of_ble_eq_true rfl)⟩) ⟨mP_blind, va_recv hKc hPc (ci := 11) (q0 := 0) rfl rfl, mP_at hPc hKc hDc⟩ rfl rfl hl.1 rfl (lv_room (Nat.le_of_ble_eq_true rfl)) dX11_keptCurve_4 ⟨Nat.zero_le _, Nat.zero_le _⟩) hS (fun q hq h => absurd h (Nat.not_le.mpr hq)) (fun q h => hA q (Nat.le_trans hS.1 h)) (fun r1 u9 t H locs ht hvm hw hB hz1 hk1 hS => ?_)
  have hw : r1 = -1 := hw
  subst hw
  have hP := px_kept hP (fun a ha => hk1 a ha (Nat.not_le.mpr ha))
  refine lv_istore (lv' := [(4, .int (-1)), (0, .ref h0), (1, .int c0), (2, .int d0), (3, .int 0)]) hx hb dX11_keptCurve_7 hl (by decide) rfl (fun ls hl => ?_)
  refine lv_iload hx hb dX11_keptCurve_9 (lv_at hl 0 rfl) ?_
  refine lv_iconst (v := (-1)) hx hb dX11_keptCurve_11 (by decide) ?_
  refine lv_icmp_eq (tgt := 18) hx hb dX11_keptCurve_12 (by decide) (fun _ => ?_) (fun h9 => absurd (by decide) h9)
  refine lv_aload_n hx hb dX11_keptCurve_18 rfl (lv_at hl 1 rfl) ?_
  refine va_get (D := (dC, dI)) (ci := 11) (v := .int 0) (C := RX11) (T := TX11) (N := 16) hx hb hu iX11 hown hK hP 0 rfl rfl 1 (by decide) (hu _ u426) (fun _ h9 => h9) hg.2.1 dX11_keptCurve_19 ?_
  refine lv_bipush (v := 40) hx hb dX11_keptCurve_22 (by decide) ?_
  refine lv_icmp_lt (tgt := 38) hx hb dX11_keptCurve_24 (by decide) (fun _ => ?_) (fun h9 => absurd (by decide) h9)
  refine lv_aload_n hx hb dX11_keptCurve_38 rfl (lv_at hl 1 rfl) ?_
  refine va_get (D := (dC, dI)) (ci := 11) (v := .ref qc) (C := RX11) (T := TX11) (N := 16) hx hb hu iX11 hown hK hP 0 rfl rfl 0 (by decide) (hu _ u97) (fun _ h9 => h9) hg.1 dX11_keptCurve_39 ?_
  refine lv_aload_n hx hb dX11_keptCurve_42 rfl (lv_at hl 1 rfl) ?_
  refine va_get (D := (dC, dI)) (ci := 11) (v := .int 0) (C := RX11) (T := TX11) (N := 16) hx hb hu iX11 hown hK hP 0 rfl rfl 1 (by decide) (hu _ u426) (fun _ h9 => h9) hg.2.1 dX11_keptCurve_43 ?_
  refine px_new (ci := 2) (fs := dfX2) (C := RX2) (T := TX2) (N := 4) hx hb hu iX2 tyX2 tyX2_ok hown (hu _ u96) (hu _ u620) (hu _ u621) hK hP hS rfl dfX2_ok (Nat.le_of_ble_eq_true rfl) (Nat.le_of_ble_eq_true rfl) dX11_keptCurve_46 (fun q1 H hP hq hlt hq0 hS => ?_)
  refine W.widen (k := 1) (n := 4) (Nat.le_of_ble_eq_true rfl) (Nat.le_of_ble_eq_true rfl) ?_
  refine lv_dup hx hb dX11_keptCurve_49 rfl ?_
  refine lv_iload_n hx hb dX11_keptCurve_50 rfl (lv_at hl 2 rfl) ?_
  refine lv_iload_n hx hb dX11_keptCurve_51 rfl (lv_at hl 3 rfl) ?_
  refine lv_iload_n hx hb dX11_keptCurve_52 rfl (lv_at hl 4 rfl) ?_
  refine px_initK (As := [.int c0, .int d0, .int 0]) (rest := [.ref q1, .int 0, .ref qc]) (nL := 5) (j_X2_init l (c0) (d0) (0)) ⟨hx, hb, hml, hown, hu⟩ (cwI 3 hu (gC u623) rfl rfl rfl (hu _ u621) (hu _ u624) (hu _ u622) rfl (by decide +kernel) ⟨(Nat.le_of_ble_eq_true rfl), (Nat.le_of_ble_eq_true rfl)⟩) (hK.sub [] rfl) hev hP hD hq hlt hq0 hS hA rfl hl.1 (Nat.le_of_ble_eq_true rfl) dX11_keptCurve_53 ⟨(Nat.le_of_ble_eq_true rfl), (Nat.le_of_ble_eq_true rfl)⟩ (fun fu2 H locs hF3 hP hD hS => ?_)
  have hP : va_P (dC, dI) clx [(h0, .inr (11, fs)), (qc, .inl (cC, 40, .inr (.inr (.inr (.inr (fun _ => none)))))), (q1, .inr (2, fu2))] H := hP
  have hD : va_D A [(h0, .inr (11, fs)), (qc, .inl (cC, 40, .inr (.inr (.inr (.inr (fun _ => none)))))), (q1, .inr (2, fu2))] := hD
  refine W.widen (k := 1) (n := 4) (Nat.le_of_ble_eq_true rfl) (Nat.le_of_ble_eq_true rfl) ?_
  refine va_astq (r := (RX2, TX2, 4)) hx hb hK hP hD hS 1 0 2 2 rfl rfl rfl rfl (by unfold vp_in; decide) dX11_keptCurve_56 (fun H locs hP hD hS => ?_)
  have hP : va_P (dC, dI) clx [(h0, .inr (11, fs))] H := hP.sub [0] rfl
  have hD : va_D A [(h0, .inr (11, fs))] := hD.sub [0] (by decide) rfl
  refine lv_aload_n hx hb dX11_keptCurve_57 rfl (lv_at hl 1 rfl) ?_
  refine lv_dup hx hb dX11_keptCurve_58 rfl ?_
  refine va_get (D := (dC, dI)) (ci := 11) (v := .int 0) (C := RX11) (T := TX11) (N := 16) hx hb hu iX11 hown hK hP 0 rfl rfl 1 (by decide) (hu _ u426) (fun _ h9 => h9) hg.2.1 dX11_keptCurve_59 ?_
  refine lv_dup_x1 hx hb dX11_keptCurve_62 rfl rfl ?_
  refine lv_iconst (v := 1) hx hb dX11_keptCurve_63 (by decide) ?_
  refine lv_iadd hx hb dX11_keptCurve_64 ?_
  refine va_put (D := (dC, dI)) (ci := 11) (v := .int (0 + 1)) (ty := .int) (C := RX11) (T := TX11) (N := 16) hx hb hu iX11 tyX11 tyX11_ok nmX11 hown hK hP hD hS 0 rfl rfl 1 (by decide) (hu _ u426) (fun _ h9 => h9) rfl (by decide +kernel) rfl rfl (by rw [hg.2.2]; decide) dX11_keptCurve_65 (fun H locs hP hD hS => ?_)
  have hP : va_P (dC, dI) clx [(h0, .inr (11, (fs.set 1 (.int (0 + 1)))))] H := hP
  have hD : va_D A [(h0, .inr (11, (fs.set 1 (.int (0 + 1)))))] := hD
  refine W.widen (k := 1) (n := 4) (Nat.le_of_ble_eq_true rfl) (Nat.le_of_ble_eq_true rfl) ?_
  exact W.iret (v := 0) hx hb hr (fun t ht hW => ⟨⟨0, (), rfl, rfl, trivial⟩, hS.F ht⟩) hS.2.2 dX11_keptCurve_68
def wk_X11_cubic : List Cond := .code yX11_cubic cX11_cubic 3 (some .int) :: wU
set_option maxHeartbeats 4000000 in
set_option maxRecDepth 100000 in
theorem good_X11_cubic (l : Launch) (dC : Nat → ClassId) (dI : Nat → Nat → Nat) (h0 sz : Nat) (fs : List Value) (qc : Nat) (cC : ClassId) (c0 d0 : Int32) (hg : xG fs qc) (hn : ¬ bad c0 d0) : Met l yX11_cubic wk_X11_cubic ({ frames := 9, cells := 1, slots := 4, locals := 179 } : Room) (kP dC dI [(h0, .inr (11, fs)), (qc, .inl (cC, 40, .inr (.inr (.inr (.inr (fun _ => none))))))] [(cC, .object RX2)] sz [.ref h0, .int c0, .int d0]) (va_Qi (S := Unit) (fun r _ => r = rs c0 d0) (fun _ _ => True) (va_A [(h0, .inr (11, fs)), (qc, .inl (cC, 40, .inr (.inr (.inr (.inr (fun _ => none))))))] sz)) 1 4 (va_A [(h0, .inr (11, fs)), (qc, .inl (cC, 40, .inr (.inr (.inr (.inr (fun _ => none))))))] sz) := by
  refine Met.ofW (cc := cX11_cubic) (maxL := 3) (ret := (some .int)) (by decide) rfl ?_
  intro p e s m args below meth c s₁ B hml hv
  obtain ⟨rfl, hsz, hP, hK, hD0, hev⟩ := hv
  have hx := B.exec
  have hb := B.bytes
  have hr := B.returns
  have hts := atoms_spec (ws := wk_X11_cubic) B.pre
  have hu : ∀ w ∈ wU, w.before ([.ref h0, .int c0, .int d0] : List Value).toArray s = true := fun w h => hts w (List.mem_cons_of_mem _ h)
  have hown : s.vm.findClass RX11 = some m.cls := findClass_of_methodNamed B.named
  have hlocks := B.notSynchronized
  subst hsz
  have hD := hD0.self (sz := s.heap.size)
  generalize hAe : va_A [(h0, .inr (11, fs)), (qc, .inl (cC, 40, .inr (.inr (.inr (.inr (fun _ => none))))))] s.heap.size = A at hD ⊢
  have hA : ∀ q : Nat, s.heap.size ≤ q → A q := fun q h => by rw [← hAe]; exact Or.inr h
  have hS : va_S A s.heap s.heap [] := va_S.rf
  have hl := lv_entry ([.ref h0, .int c0, .int d0]) (n := 3) (Nat.le_of_ble_eq_true rfl)
  rw [lg_entry_eq]
  generalize (lg_sl ([.ref h0, .int c0, .int d0]) ++ List.replicate (3 - (lg_sl ([.ref h0, .int c0, .int d0])).length) Slot.unset).toArray = ls at hl ⊢
  have hl : lv_has ls 3 [(0, .ref h0), (1, .int c0), (2, .int d0)] := hl
  have g1 : ¬ c0 < (-10000) := fun h => hn (Or.inl h)
  have g2 : ¬ 10000 < c0 := fun h => hn (Or.inr (Or.inl h))
  have g3 : ¬ d0 < (-10000) := fun h => hn (Or.inr (Or.inr (Or.inl h)))
  have g4 : ¬ 10000 < d0 := fun h => hn (Or.inr (Or.inr (Or.inr h)))
  refine lv_iload_n hx hb dX11_cubic_0 rfl (lv_at hl 1 rfl) ?_
  refine lv_sipush (v := (-10000)) hx hb dX11_cubic_1 (by decide) ?_
  refine lv_icmp_lt (tgt := 28) hx hb dX11_cubic_4 (by decide) (fun h9 => absurd h9 g1) (fun _ => ?_)
  refine lv_iload_n hx hb dX11_cubic_7 rfl (lv_at hl 1 rfl) ?_
  refine lv_sipush (v := 10000) hx hb dX11_cubic_8 (by decide) ?_
  refine lv_icmp_gt (tgt := 28) hx hb dX11_cubic_11 (by decide) (fun h9 => absurd h9 g2) (fun _ => ?_)
  refine lv_iload_n hx hb dX11_cubic_14 rfl (lv_at hl 2 rfl) ?_
  refine lv_sipush (v := (-10000)) hx hb dX11_cubic_15 (by decide) ?_
  refine lv_icmp_lt (tgt := 28) hx hb dX11_cubic_18 (by decide) (fun h9 => absurd h9 g3) (fun _ => ?_)
  refine lv_iload_n hx hb dX11_cubic_21 rfl (lv_at hl 2 rfl) ?_
  refine lv_sipush (v := 10000) hx hb dX11_cubic_22 (by decide) ?_
  refine lv_icmp_le (tgt := 38) hx hb dX11_cubic_25 (by decide) (fun _ => ?_) (fun h9 => absurd (Int32.not_lt.mp g4) h9)
  refine lv_iload_n hx hb dX11_cubic_38 rfl (lv_at hl 1 rfl) ?_
  refine lv_i2l hx hb dX11_cubic_39 rfl ?_
  refine lv_iload_n hx hb dX11_cubic_40 rfl (lv_at hl 2 rfl) ?_
  refine lv_i2l hx hb dX11_cubic_41 rfl ?_
  refine lv_lconst (v := 0) hx hb dX11_cubic_42 (by decide) ?_
  refine va_calll (va_runS (As := [.long c0.toInt64, .long d0.toInt64, .long 0]) (rest := []) ⟨hx, hb, hml, hown, hu⟩ (f_X2_worthOf l (c0.toInt64) (d0.toInt64)) (va_cwS 3 hu (gS u625 u626 u621 u627) rfl rfl rfl (by decide +kernel) ⟨(Nat.le_of_ble_eq_true rfl), (Nat.le_of_ble_eq_true rfl)⟩) ⟨fun a U g mk q => ⟨q.1, trivial⟩, fun U hU hW => ⟨rfl, trivial⟩⟩ rfl rfl hl.1 rfl (lv_room (Nat.le_of_ble_eq_true rfl)) dX11_cubic_43 ⟨Nat.zero_le _, Nat.zero_le _⟩) hS (fun q _ h => h.elim) (fun q h => h.elim) (fun r1 u9 t H locs ht hvm hw hB hz1 hk1 hS => ?_)
  have hP := px_kept hP (fun a ha => hk1 a ha id)
  have hw : r1 = (wv c0 d0) := hw
  subst hw
  refine lv_lconst (v := 0) hx hb dX11_cubic_46 (by decide) ?_
  refine W.lcmp hx hb dX11_cubic_47 ?_
  refine lv_if_ne (tgt := 55) hx hb dX11_cubic_48 (by decide) (fun kz => ?_) (fun kz => ?_)
  · skip
    refine lv_aload_n hx hb dX11_cubic_55 rfl (lv_at hl 0 rfl) ?_
    refine lv_iload_n hx hb dX11_cubic_56 rfl (lv_at hl 1 rfl) ?_
    refine lv_iload_n hx hb dX11_cubic_57 rfl (lv_at hl 2 rfl) ?_
    refine lv_iconst (v := 0) hx hb dX11_cubic_58 (by decide) ?_
    have hFc := va_free (wc := [(h0, .inr (11, fs)), (qc, .inl (cC, 40, .inr (.inr (.inr (.inr (fun _ => none))))))]) hD hS hA [0, 1] rfl
    refine va_calli (va_runV (As := [.int c0, .int d0, .int 0]) (rest := []) ⟨hx, hb, hml, hown, hu⟩ (r_X11_keptCurve l dC dI h0 _ fs qc cC c0 d0 hg) (cwV 3 hu (gV u628 u629 u630 u432 u631) rfl rfl rfl (by decide +kernel) ⟨(Nat.le_of_ble_eq_true rfl), (Nat.le_of_ble_eq_true rfl)⟩) ⟨kP_blind, va_recv hK hP (ci := 11) (q0 := 0) rfl rfl, kP_at hP hK hD hev⟩ rfl rfl hl.1 rfl (lv_room (Nat.le_of_ble_eq_true rfl)) dX11_cubic_59 ⟨(Nat.le_of_ble_eq_true rfl), (Nat.le_of_ble_eq_true rfl)⟩) hS (fun q _ h => hFc q h) hFc (fun r5 u9 t H1 locs ht hvm hw hB hz1 hk1 hS => ?_)
    have hw : r5 = 0 := hw
    subst hw
    refine W.widen (k := 1) (n := 4) (Nat.le_of_ble_eq_true rfl) (Nat.le_of_ble_eq_true rfl) ?_
    exact W.iret (v := 0) hx hb hr (fun t ht hW => ⟨⟨0, (), rfl, by unfold rs; rw [if_neg (fun h => kz ((lg_cmp_eq _ _).mpr h))], trivial⟩, hS.F ht⟩) hS.2.2 dX11_cubic_62
  · skip
    refine lv_iconst (v := (-1)) hx hb dX11_cubic_51 (by decide) ?_
    refine lv_goto (tgt := 62) hx hb dX11_cubic_52 (by decide) ?_
    refine W.widen (k := 1) (n := 4) (Nat.le_of_ble_eq_true rfl) (Nat.le_of_ble_eq_true rfl) ?_
    exact W.iret (v := (-1)) hx hb hr (fun t ht hW => ⟨⟨(-1), (), rfl, by unfold rs; rw [if_pos ((lg_cmp_eq _ _).mp kz)], trivial⟩, hS.F ht⟩) hS.2.2 dX11_cubic_62
set_option maxHeartbeats 4000000 in
set_option maxRecDepth 100000 in
theorem bad_X11_cubic (l : Launch) (hst : l.stackTraces = false) (dC : Nat → ClassId) (dI : Nat → Nat → Nat) (h0 sz : Nat) (fs : List Value) (c0 d0 : Int32) (hbd : bad c0 d0) : vx_Met l yX11_cubic wk_X11_cubic ({ frames := 7, cells := 1, slots := 6, locals := 130 } : Room) (tQ dC dI [(h0, .inr (11, fs))] sz [.ref h0, .int c0, .int d0]) (fun _ _ _ _ => False) (px_X nIAE sz) 1 6 (nw sz) := by
  refine vx_ofW (cc := cX11_cubic) (maxL := 3) (ret := (some .int)) (by decide) rfl ?_
  intro p e s m args below meth c s₁ B hml htb hv
  obtain ⟨rfl, hsz, hP, hK, hev, hdv, hZ⟩ := hv
  have hx := B.exec
  have hb := B.bytes
  have hr := B.returns
  have hts := atoms_spec (ws := wk_X11_cubic) B.pre
  have hu : ∀ w ∈ wU, w.before ([.ref h0, .int c0, .int d0] : List Value).toArray s = true := fun w h => hts w (List.mem_cons_of_mem _ h)
  have hown : s.vm.findClass RX11 = some m.cls := findClass_of_methodNamed B.named
  have hlocks := B.notSynchronized
  subst hsz
  have hA : ∀ q : Nat, s.heap.size ≤ q → nw s.heap.size q := fun _ h => h
  have hS : va_S (nw s.heap.size) s.heap s.heap [] := va_S.rf
  have hl := lv_entry ([.ref h0, .int c0, .int d0]) (n := 3) (Nat.le_of_ble_eq_true rfl)
  rw [lg_entry_eq]
  generalize (lg_sl ([.ref h0, .int c0, .int d0]) ++ List.replicate (3 - (lg_sl ([.ref h0, .int c0, .int d0])).length) Slot.unset).toArray = ls at hl ⊢
  have hl : lv_has ls 3 [(0, .ref h0), (1, .int c0), (2, .int d0)] := hl
  refine lv_iload_n hx hb dX11_cubic_0 rfl (lv_at hl 1 rfl) ?_
  refine lv_sipush (v := (-10000)) hx hb dX11_cubic_1 (by decide) ?_
  refine lv_icmp_lt (tgt := 28) hx hb dX11_cubic_4 (by decide) (fun c1 => ?_) (fun c1 => ?_)
  · skip
    obtain ⟨sa, hsa⟩ := hev.2.2.2.2.2.2.2
    exact vx_throwS (A := nw s.heap.size) (names := ["java/lang/RuntimeException", "java/lang/Exception"]) (cls := nIAE) hx hb hst hown (by decide) (by decide) (hu _ u632) (hu _ u633) hsa (at_IAE hu hev hdv) (ot_IAE _) hZ.1 hZ.2 hS (hl.1.trans hml.symm) dX11_cubic_28 dX11_cubic_31 dX11_cubic_32 dX11_cubic_34 dX11_cubic_37 (fun x h => (htb x h).elim) (by decide) (Nat.le_of_ble_eq_true rfl) (Nat.le_of_ble_eq_true rfl) (Nat.le_of_ble_eq_true rfl) hlocks (fun t hvm hz hk => ⟨rfl, hz, fun q h1 _ => hk q h1⟩) hS.2.2 (Nat.le_of_ble_eq_true rfl) (Nat.le_of_ble_eq_true rfl)
  · skip
    refine lv_iload_n hx hb dX11_cubic_7 rfl (lv_at hl 1 rfl) ?_
    refine lv_sipush (v := 10000) hx hb dX11_cubic_8 (by decide) ?_
    refine lv_icmp_gt (tgt := 28) hx hb dX11_cubic_11 (by decide) (fun c2 => ?_) (fun c2 => ?_)
    · skip
      obtain ⟨sa, hsa⟩ := hev.2.2.2.2.2.2.2
      exact vx_throwS (A := nw s.heap.size) (names := ["java/lang/RuntimeException", "java/lang/Exception"]) (cls := nIAE) hx hb hst hown (by decide) (by decide) (hu _ u632) (hu _ u633) hsa (at_IAE hu hev hdv) (ot_IAE _) hZ.1 hZ.2 hS (hl.1.trans hml.symm) dX11_cubic_28 dX11_cubic_31 dX11_cubic_32 dX11_cubic_34 dX11_cubic_37 (fun x h => (htb x h).elim) (by decide) (Nat.le_of_ble_eq_true rfl) (Nat.le_of_ble_eq_true rfl) (Nat.le_of_ble_eq_true rfl) hlocks (fun t hvm hz hk => ⟨rfl, hz, fun q h1 _ => hk q h1⟩) hS.2.2 (Nat.le_of_ble_eq_true rfl) (Nat.le_of_ble_eq_true rfl)
    · skip
      refine lv_iload_n hx hb dX11_cubic_14 rfl (lv_at hl 2 rfl) ?_
      refine lv_sipush (v := (-10000)) hx hb dX11_cubic_15 (by decide) ?_
      refine lv_icmp_lt (tgt := 28) hx hb dX11_cubic_18 (by decide) (fun c3 => ?_) (fun c3 => ?_)
      · skip
        obtain ⟨sa, hsa⟩ := hev.2.2.2.2.2.2.2
        exact vx_throwS (A := nw s.heap.size) (names := ["java/lang/RuntimeException", "java/lang/Exception"]) (cls := nIAE) hx hb hst hown (by decide) (by decide) (hu _ u632) (hu _ u633) hsa (at_IAE hu hev hdv) (ot_IAE _) hZ.1 hZ.2 hS (hl.1.trans hml.symm) dX11_cubic_28 dX11_cubic_31 dX11_cubic_32 dX11_cubic_34 dX11_cubic_37 (fun x h => (htb x h).elim) (by decide) (Nat.le_of_ble_eq_true rfl) (Nat.le_of_ble_eq_true rfl) (Nat.le_of_ble_eq_true rfl) hlocks (fun t hvm hz hk => ⟨rfl, hz, fun q h1 _ => hk q h1⟩) hS.2.2 (Nat.le_of_ble_eq_true rfl) (Nat.le_of_ble_eq_true rfl)
      · skip
        refine lv_iload_n hx hb dX11_cubic_21 rfl (lv_at hl 2 rfl) ?_
        refine lv_sipush (v := 10000) hx hb dX11_cubic_22 (by decide) ?_
        refine lv_icmp_le (tgt := 38) hx hb dX11_cubic_25 (by decide) (fun c4 => ?_) (fun c4 => ?_)
        · skip
          exact absurd hbd (fun h => by rcases h with h | h | h | h; exact c1 h; exact c2 h; exact c3 h; exact (Int32.not_lt.mpr c4) h)
        · skip
          obtain ⟨sa, hsa⟩ := hev.2.2.2.2.2.2.2
          exact vx_throwS (A := nw s.heap.size) (names := ["java/lang/RuntimeException", "java/lang/Exception"]) (cls := nIAE) hx hb hst hown (by decide) (by decide) (hu _ u632) (hu _ u633) hsa (at_IAE hu hev hdv) (ot_IAE _) hZ.1 hZ.2 hS (hl.1.trans hml.symm) dX11_cubic_28 dX11_cubic_31 dX11_cubic_32 dX11_cubic_34 dX11_cubic_37 (fun x h => (htb x h).elim) (by decide) (Nat.le_of_ble_eq_true rfl) (Nat.le_of_ble_eq_true rfl) (Nat.le_of_ble_eq_true rfl) hlocks (fun t hvm hz hk => ⟨rfl, hz, fun q h1 _ => hk q h1⟩) hS.2.2 (Nat.le_of_ble_eq_true rfl) (Nat.le_of_ble_eq_true rfl)
def wk_L_cubic : List Cond := .codeWith yL_cubic cL_cubic 5 (some .int) [(0, 10, 13, 13), (0, 10, 17, 15)] :: wU
set_option maxHeartbeats 4000000 in
set_option maxRecDepth 100000 in
theorem bad_L_cubic (l : Launch) (hst : l.stackTraces = false) (dC : Nat → ClassId) (dI : Nat → Nat → Nat) (h0 sz : Nat) (qo : Nat) (fs : List Value) (c0 d0 : Int32) (hbd : bad c0 d0) : Met l yL_cubic wk_L_cubic ({ frames := 8, cells := 1, slots := 6, locals := 152 } : Room) (tQ dC dI [(h0, .inr (11, fs))] sz [.ref h0, .int c0, .int d0, .ref qo]) (va_Qi (S := Unit) (fun r _ => r = 1) (fun _ _ => True) (nw sz)) 1 6 (nw sz) := by
  refine px_ofWH (cc := cL_cubic) (maxL := 5) (ret := (some .int)) (hh := [(0, 10, 13, 13), (0, 10, 17, 15)]) (by decide) rfl ?_
  intro p e s m args below meth c s₁ B hml hv
  obtain ⟨rfl, hsz, hP, hK, hev, hdv, hZ⟩ := hv
  have hx := B.exec
  have hb := B.bytes
  have hr := B.returns
  have hts := atoms_spec (ws := wk_L_cubic) B.pre
  have hu : ∀ w ∈ wU, w.before ([.ref h0, .int c0, .int d0, .ref qo] : List Value).toArray s = true := fun w h => hts w (List.mem_cons_of_mem _ h)
  have hown : s.vm.findClass RL = some m.cls := findClass_of_methodNamed B.named
  have hlocks := B.notSynchronized
  subst hsz
  have hA : ∀ q : Nat, s.heap.size ≤ q → nw s.heap.size q := fun _ h => h
  have hS : va_S (nw s.heap.size) s.heap s.heap [] := va_S.rf
  have hl := lv_entry ([.ref h0, .int c0, .int d0, .ref qo]) (n := 5) (Nat.le_of_ble_eq_true rfl)
  rw [lg_entry_eq]
  generalize (lg_sl ([.ref h0, .int c0, .int d0, .ref qo]) ++ List.replicate (5 - (lg_sl ([.ref h0, .int c0, .int d0, .ref qo])).length) Slot.unset).toArray = ls at hl ⊢
  have hl : lv_has ls 5 [(0, .ref h0), (1, .int c0), (2, .int d0), (3, .ref qo)] := hl
  have htb := vx_table (x := yL_cubic) B (hts (.codeWith yL_cubic cL_cubic 5 (some .int) [(0, 10, 13, 13), (0, 10, 17, 15)]) List.mem_cons_self)
  refine lv_aload_n hx hb dL_cubic_0 rfl (lv_at hl 3 rfl) ?_
  refine lv_iconst (v := 0) hx hb dL_cubic_1 (by decide) ?_
  refine lv_aload_n hx hb dL_cubic_2 rfl (lv_at hl 0 rfl) ?_
  refine lv_iload_n hx hb dL_cubic_3 rfl (lv_at hl 1 rfl) ?_
  refine lv_iload_n hx hb dL_cubic_4 rfl (lv_at hl 2 rfl) ?_
  refine px_call (vx_runV (As := [.int c0, .int d0]) (rest := [.int 0, .ref qo]) ⟨hx, hb, hml, hown, hu⟩ (bad_X11_cubic l hst dC dI h0 _ fs c0 d0 hbd) (cwV 2 hu (gV u634 u635 u636 u432 u637) rfl rfl rfl (by decide +kernel) ⟨(Nat.le_of_ble_eq_true rfl), (Nat.le_of_ble_eq_true rfl)⟩) ⟨tQ_blind, va_recv hK hP (ci := 11) (q0 := 0) rfl rfl, tQ_at hP hK hev hdv hZ⟩ rfl rfl hl.1 rfl (lv_room (Nat.le_of_ble_eq_true rfl)) dL_cubic_5 ⟨(Nat.le_of_ble_eq_true rfl), (Nat.le_of_ble_eq_true rfl)⟩) rfl hS hA (fun ce q9 H locs hz1 hk1 hS hce hcv hcl => ?_)
  refine px_catch (name := nIAE) (E := nIAE) hown ⟨0, 10, 13, 13⟩ [⟨0, 10, 17, 15⟩] htb rfl (by decide) (hu _ u638) (va_Nw.use rfl hev.2.2.2.1.2) hce hcv hcl ?_
  refine W.widen (k := 1) (n := 6) (Nat.le_of_ble_eq_true rfl) (Nat.le_of_ble_eq_true rfl) ?_
  refine lv_astore (lv' := [(4, .ref q9), (0, .ref h0), (1, .int c0), (2, .int d0), (3, .ref qo)]) hx hb dL_cubic_13 hl (by decide) rfl (fun ls hl => ?_)
  refine lv_iconst (v := 1) hx hb dL_cubic_15 (by decide) ?_
  exact W.iret (v := 1) hx hb hr (fun t ht hW => ⟨⟨1, (), rfl, rfl, trivial⟩, hS.F ht⟩) hS.2.2 dL_cubic_16
set_option maxHeartbeats 4000000 in
set_option maxRecDepth 100000 in
theorem good_L_cubic (l : Launch) (dC : Nat → ClassId) (dI : Nat → Nat → Nat) (h0 sz : Nat) (qo : Nat) (fs : List Value) (qc : Nat) (cC : ClassId) (cO : ClassId) (c0 d0 : Int32) (hg : xG fs qc) (hn : ¬ bad c0 d0) : Met l yL_cubic wk_L_cubic ({ frames := 10, cells := 1, slots := 4, locals := 201 } : Room) (kP dC dI [(h0, .inr (11, fs)), (qc, .inl (cC, 40, .inr (.inr (.inr (.inr (fun _ => none)))))), (qo, .inl (cO, 1, .inr (.inl (fun _ => 0))))] [(cC, .object RX2), (cO, .long)] sz [.ref h0, .int c0, .int d0, .ref qo]) (va_Qi (S := Nat → Int64) (fun r g => r = 0 ∧ g 0 = (rs c0 d0).toInt64) (fun g t => va_P (dC, dI) clx [(qo, .inl (cO, 1, .inr (.inl g)))] t.heap) (va_A [(h0, .inr (11, fs)), (qc, .inl (cC, 40, .inr (.inr (.inr (.inr (fun _ => none)))))), (qo, .inl (cO, 1, .inr (.inl (fun _ => 0))))] sz)) 1 4 (va_A [(h0, .inr (11, fs)), (qc, .inl (cC, 40, .inr (.inr (.inr (.inr (fun _ => none)))))), (qo, .inl (cO, 1, .inr (.inl (fun _ => 0))))] sz) := by
  refine px_ofWH (cc := cL_cubic) (maxL := 5) (ret := (some .int)) (hh := [(0, 10, 13, 13), (0, 10, 17, 15)]) (by decide) rfl ?_
  intro p e s m args below meth c s₁ B hml hv
  obtain ⟨rfl, hsz, hP, hK, hD0, hev⟩ := hv
  have hx := B.exec
  have hb := B.bytes
  have hr := B.returns
  have hts := atoms_spec (ws := wk_L_cubic) B.pre
  have hu : ∀ w ∈ wU, w.before ([.ref h0, .int c0, .int d0, .ref qo] : List Value).toArray s = true := fun w h => hts w (List.mem_cons_of_mem _ h)
  have hown : s.vm.findClass RL = some m.cls := findClass_of_methodNamed B.named
  have hlocks := B.notSynchronized
  subst hsz
  have hD := hD0.self (sz := s.heap.size)
  generalize hAe : va_A [(h0, .inr (11, fs)), (qc, .inl (cC, 40, .inr (.inr (.inr (.inr (fun _ => none)))))), (qo, .inl (cO, 1, .inr (.inl (fun _ => 0))))] s.heap.size = A at hD ⊢
  have hA : ∀ q : Nat, s.heap.size ≤ q → A q := fun q h => by rw [← hAe]; exact Or.inr h
  have hS : va_S A s.heap s.heap [] := va_S.rf
  have hl := lv_entry ([.ref h0, .int c0, .int d0, .ref qo]) (n := 5) (Nat.le_of_ble_eq_true rfl)
  rw [lg_entry_eq]
  generalize (lg_sl ([.ref h0, .int c0, .int d0, .ref qo]) ++ List.replicate (5 - (lg_sl ([.ref h0, .int c0, .int d0, .ref qo])).length) Slot.unset).toArray = ls at hl ⊢
  have hl : lv_has ls 5 [(0, .ref h0), (1, .int c0), (2, .int d0), (3, .ref qo)] := hl
  refine lv_aload_n hx hb dL_cubic_0 rfl (lv_at hl 3 rfl) ?_
  refine lv_iconst (v := 0) hx hb dL_cubic_1 (by decide) ?_
  refine lv_aload_n hx hb dL_cubic_2 rfl (lv_at hl 0 rfl) ?_
  refine lv_iload_n hx hb dL_cubic_3 rfl (lv_at hl 1 rfl) ?_
  refine lv_iload_n hx hb dL_cubic_4 rfl (lv_at hl 2 rfl) ?_
  have hPc := hP.sub (ws' := [(h0, .inr (11, fs)), (qc, .inl (cC, 40, .inr (.inr (.inr (.inr (fun _ => none))))))]) [0, 1] rfl
  have hDc := hD.sub (ws' := [(h0, .inr (11, fs)), (qc, .inl (cC, 40, .inr (.inr (.inr (.inr (fun _ => none))))))]) [0, 1] (by decide) rfl
  have hKc := hK.sub (tys' := [(cC, .object RX2)]) [0] rfl
  have hFc := va_free (wc := [(h0, .inr (11, fs)), (qc, .inl (cC, 40, .inr (.inr (.inr (.inr (fun _ => none))))))]) hD hS hA [0, 1] rfl
  refine va_calli (va_runV (As := [.int c0, .int d0]) (rest := [.int 0, .ref qo]) ⟨hx, hb, hml, hown, hu⟩ (good_X11_cubic l dC dI h0 _ fs qc cC c0 d0 hg hn) (cwV 2 hu (gV u634 u635 u636 u432 u637) rfl rfl rfl (by decide +kernel) ⟨(Nat.le_of_ble_eq_true rfl), (Nat.le_of_ble_eq_true rfl)⟩) ⟨kP_blind, va_recv hKc hPc (ci := 11) (q0 := 0) rfl rfl, kP_at hPc hKc hDc hev⟩ rfl rfl hl.1 rfl (lv_room (Nat.le_of_ble_eq_true rfl)) dL_cubic_5 ⟨(Nat.le_of_ble_eq_true rfl), (Nat.le_of_ble_eq_true rfl)⟩) hS (fun q _ h => hFc q h) hFc (fun r5 u9 t H1 locs ht hvm hw hB hz1 hk1 hS => ?_)
  have hw : r5 = rs c0 d0 := hw
  subst hw
  obtain ⟨hP, hD⟩ := va_join (wr := [(qo, .inl (cO, 1, .inr (.inl (fun _ => 0))))]) (w1 := []) hP hD [0, 1] [2] rfl rfl (by decide) (by decide) hk1 hFc (fun k q h => by simp at h) ⟨fun i j p q h => by simp at h, fun k q h => by simp at h⟩
  generalize H1 = H at hP hS ⊢
  have hP : va_P (dC, dI) clx [(qo, .inl (cO, 1, .inr (.inl (fun _ => 0))))] H := hP
  have hD : va_D A [(qo, .inl (cO, 1, .inr (.inl (fun _ => 0))))] := hD
  refine lv_i2l hx hb dL_cubic_8 rfl ?_
  refine va_last hx hb hK hP hD hS 0 1 rfl rfl (by unfold vp_in; decide) dL_cubic_9 (fun H locs hP hD hS => ?_)
  refine lv_goto (tgt := 21) hx hb dL_cubic_10 (by decide) ?_
  refine lv_iconst (v := 0) hx hb dL_cubic_21 (by decide) ?_
  refine W.widen (k := 1) (n := 4) (Nat.le_of_ble_eq_true rfl) (Nat.le_of_ble_eq_true rfl) ?_
  exact W.iret (v := 0) hx hb hr (fun t ht hW => ⟨⟨0, vp_updL (fun _ => 0) (0 : Int32).toNatClampNeg (rs c0 d0).toInt64, rfl, ⟨rfl, by unfold vp_updL; rw [if_pos (by decide)]⟩, by show va_P _ _ _ t.heap; rw [ht]; exact hP⟩, hS.F ht⟩) hS.2.2 dL_cubic_22
