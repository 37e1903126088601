def xOK (fs f8 f3 : List Value) (qc q8 q3 : Nat) : Prop := (fs[0]? = some (.ref qc) ∧ fs[1]? = some (.int 0) ∧ fs[3]? = some (.int 0) ∧ fs[5]? = some (.int 0) ∧ fs[10]? = some (.ref q8) ∧ fs[14]? = some (.ref q3) ∧ fs.length = 16 ∧ ∃ qt, fs[9]? = some (.ref qt)) ∧ (f8[3]? = some (.int 0) ∧ f8.length = 4) ∧ (f3[10]? = some (.int 0) ∧ f3[12]? = some (.int (-1)) ∧ f3.length = 13)
def xNew (dC : Nat → ClassId) (dI : Nat → Nat → Nat) (A : Nat → Prop) (h0 : Nat) (t : State) : Prop := ∃ (fs f8 f3 : List Value) (qc q8 q3 : Nat) (cC : ClassId), xOK fs f8 f3 qc q8 q3 ∧ va_P (dC, dI) clx [(h0, .inr (11, fs)), (qc, .inl (cC, 40, .inr (.inr (.inr (.inr (fun _ => none)))))), (q8, .inr (8, f8)), (q3, .inr (3, f3))] t.heap ∧ va_K (dC, dI) clx [(cC, .object RX2)] t ∧ va_D A [(h0, .inr (11, fs)), (qc, .inl (cC, 40, .inr (.inr (.inr (.inr (fun _ => none)))))), (q8, .inr (8, f8)), (q3, .inr (3, f3))]
def mOK (fs : List Value) (q1 q2 q3 q4 q5 q6 : Nat) : Prop := fs[0]? = some (.int 0) ∧ fs[12]? = some (.int 0) ∧ fs[22]? = some (.int 0) ∧ fs[34]? = some (.int 0) ∧ fs[42]? = some (.int 0) ∧ fs[65]? = some (.int 0) ∧ fs[8]? = some (.ref q1) ∧ fs[9]? = some (.ref q2) ∧ fs[10]? = some (.ref q3) ∧ fs[11]? = some (.ref q4) ∧ fs[35]? = some (.ref q5) ∧ fs[47]? = some (.ref q6) ∧ fs.length = 74
def mNew (dC : Nat → ClassId) (dI : Nat → Nat → Nat) (A : Nat → Prop) (h0 : Nat) (t : State) : Prop := ∃ (fs : List Value) (q1 q2 q3 q4 q5 q6 : Nat) (c1 c2 c3 c4 c5 c6 : ClassId), mOK fs q1 q2 q3 q4 q5 q6 ∧ va_P (dC, dI) clx [(h0, .inr (15, fs)), (q1, .inl (c1, 40, .inr (.inl (fun _ => 0)))), (q2, .inl (c2, 40, .inr (.inl (fun _ => 0)))), (q3, .inl (c3, 40, .inl (fun _ => 0))), (q4, .inl (c4, 40, .inl (fun _ => 0))), (q5, .inl (c5, 40, .inl (fun _ => 0))), (q6, .inl (c6, 40, .inl (fun _ => 0)))] t.heap ∧ va_K (dC, dI) clx [(c1, .long), (c2, .long), (c3, .int), (c4, .int), (c5, .boolean), (c6, .boolean)] t ∧ va_D A [(h0, .inr (15, fs)), (q1, .inl (c1, 40, .inr (.inl (fun _ => 0)))), (q2, .inl (c2, 40, .inr (.inl (fun _ => 0)))), (q3, .inl (c3, 40, .inl (fun _ => 0))), (q4, .inl (c4, 40, .inl (fun _ => 0))), (q5, .inl (c5, 40, .inl (fun _ => 0))), (q6, .inl (c6, 40, .inl (fun _ => 0)))]
theorem dX11_init_0 : decode cX11_init 0 = .ok (.aload_n 0, 1) := by decide +kernel
theorem dX11_init_1 : decode cX11_init 1 = .ok (.invokespecial 1, 3) := by decide +kernel
theorem dX11_init_4 : decode cX11_init 4 = .ok (.aload_n 0, 1) := by decide +kernel
theorem dX11_init_5 : decode cX11_init 5 = .ok (.bipush 40, 2) := by decide +kernel
theorem dX11_init_7 : decode cX11_init 7 = .ok (.anewarray 9, 3) := by decide +kernel
theorem dX11_init_10 : decode cX11_init 10 = .ok (.putfield 11, 3) := by decide +kernel
theorem dX11_init_13 : decode cX11_init 13 = .ok (.aload_n 0, 1) := by decide +kernel
theorem dX11_init_14 : decode cX11_init 14 = .ok (.sipush 400, 3) := by decide +kernel
theorem dX11_init_17 : decode cX11_init 17 = .ok (.anewarray 15, 3) := by decide +kernel
theorem dX11_init_20 : decode cX11_init 20 = .ok (.putfield 17, 3) := by decide +kernel
theorem dX11_init_23 : decode cX11_init 23 = .ok (.aload_n 0, 1) := by decide +kernel
theorem dX11_init_24 : decode cX11_init 24 = .ok (.sipush 256, 3) := by decide +kernel
theorem dX11_init_27 : decode cX11_init 27 = .ok (.newarray .byte, 2) := by decide +kernel
theorem dX11_init_29 : decode cX11_init 29 = .ok (.putfield 21, 3) := by decide +kernel
theorem dX11_init_32 : decode cX11_init 32 = .ok (.aload_n 0, 1) := by decide +kernel
theorem dX11_init_33 : decode cX11_init 33 = .ok (.new 15, 3) := by decide +kernel
theorem dX11_init_36 : decode cX11_init 36 = .ok (.dup, 1) := by decide +kernel
theorem dX11_init_37 : decode cX11_init 37 = .ok (.bipush 16, 2) := by decide +kernel
theorem dX11_init_39 : decode cX11_init 39 = .ok (.invokespecial 27, 3) := by decide +kernel
theorem dX11_init_42 : decode cX11_init 42 = .ok (.putfield 30, 3) := by decide +kernel
theorem dX11_init_45 : decode cX11_init 45 = .ok (.aload_n 0, 1) := by decide +kernel
theorem dX11_init_46 : decode cX11_init 46 = .ok (.new 34, 3) := by decide +kernel
theorem dX11_init_49 : decode cX11_init 49 = .ok (.dup, 1) := by decide +kernel
theorem dX11_init_50 : decode cX11_init 50 = .ok (.invokespecial 36, 3) := by decide +kernel
theorem dX11_init_53 : decode cX11_init 53 = .ok (.putfield 37, 3) := by decide +kernel
theorem dX11_init_56 : decode cX11_init 56 = .ok (.aload_n 0, 1) := by decide +kernel
theorem dX11_init_57 : decode cX11_init 57 = .ok (.new 41, 3) := by decide +kernel
theorem dX11_init_60 : decode cX11_init 60 = .ok (.dup, 1) := by decide +kernel
theorem dX11_init_61 : decode cX11_init 61 = .ok (.invokespecial 43, 3) := by decide +kernel
theorem dX11_init_64 : decode cX11_init 64 = .ok (.putfield 44, 3) := by decide +kernel
theorem dX11_init_67 : decode cX11_init 67 = .ok (.aload_n 0, 1) := by decide +kernel
theorem dX11_init_68 : decode cX11_init 68 = .ok (.new 48, 3) := by decide +kernel
theorem dX11_init_71 : decode cX11_init 71 = .ok (.dup, 1) := by decide +kernel
theorem dX11_init_72 : decode cX11_init 72 = .ok (.invokespecial 50, 3) := by decide +kernel
theorem dX11_init_75 : decode cX11_init 75 = .ok (.putfield 51, 3) := by decide +kernel
theorem dX11_init_78 : decode cX11_init 78 = .ok (.aload_n 0, 1) := by decide +kernel
theorem dX11_init_79 : decode cX11_init 79 = .ok (.new 55, 3) := by decide +kernel
theorem dX11_init_82 : decode cX11_init 82 = .ok (.dup, 1) := by decide +kernel
theorem dX11_init_83 : decode cX11_init 83 = .ok (.invokespecial 57, 3) := by decide +kernel
theorem dX11_init_86 : decode cX11_init 86 = .ok (.putfield 58, 3) := by decide +kernel
theorem dX11_init_89 : decode cX11_init 89 = .ok (.aload_n 0, 1) := by decide +kernel
theorem dX11_init_90 : decode cX11_init 90 = .ok (.new 62, 3) := by decide +kernel
theorem dX11_init_93 : decode cX11_init 93 = .ok (.dup, 1) := by decide +kernel
theorem dX11_init_94 : decode cX11_init 94 = .ok (.invokespecial 64, 3) := by decide +kernel
theorem dX11_init_97 : decode cX11_init 97 = .ok (.putfield 65, 3) := by decide +kernel
theorem dX11_init_100 : decode cX11_init 100 = .ok (.aload_n 0, 1) := by decide +kernel
theorem dX11_init_101 : decode cX11_init 101 = .ok (.new 69, 3) := by decide +kernel
theorem dX11_init_104 : decode cX11_init 104 = .ok (.dup, 1) := by decide +kernel
theorem dX11_init_105 : decode cX11_init 105 = .ok (.invokespecial 71, 3) := by decide +kernel
theorem dX11_init_108 : decode cX11_init 108 = .ok (.putfield 72, 3) := by decide +kernel
theorem dX11_init_111 : decode cX11_init 111 = .ok (.aload_n 0, 1) := by decide +kernel
theorem dX11_init_112 : decode cX11_init 112 = .ok (.new 69, 3) := by decide +kernel
theorem dX11_init_115 : decode cX11_init 115 = .ok (.dup, 1) := by decide +kernel
theorem dX11_init_116 : decode cX11_init 116 = .ok (.invokespecial 71, 3) := by decide +kernel
theorem dX11_init_119 : decode cX11_init 119 = .ok (.putfield 76, 3) := by decide +kernel
theorem dX11_init_122 : decode cX11_init 122 = .ok (.aload_n 0, 1) := by decide +kernel
theorem dX11_init_123 : decode cX11_init 123 = .ok (.new 79, 3) := by decide +kernel
theorem dX11_init_126 : decode cX11_init 126 = .ok (.dup, 1) := by decide +kernel
theorem dX11_init_127 : decode cX11_init 127 = .ok (.invokespecial 81, 3) := by decide +kernel
theorem dX11_init_130 : decode cX11_init 130 = .ok (.putfield 82, 3) := by decide +kernel
theorem dX11_init_133 : decode cX11_init 133 = .ok (.aload_n 0, 1) := by decide +kernel
theorem dX11_init_134 : decode cX11_init 134 = .ok (.new 86, 3) := by decide +kernel
theorem dX11_init_137 : decode cX11_init 137 = .ok (.dup, 1) := by decide +kernel
theorem dX11_init_138 : decode cX11_init 138 = .ok (.invokespecial 88, 3) := by decide +kernel
theorem dX11_init_141 : decode cX11_init 141 = .ok (.putfield 89, 3) := by decide +kernel
theorem dX11_init_144 : decode cX11_init 144 = .ok (.return_, 1) := by decide +kernel
def wk_X11_init : List Cond := .code yX11_init cX11_init 1 none :: wU
set_option maxHeartbeats 16000000 in
set_option maxRecDepth 100000 in
theorem k_X11_init (l : Launch) (dC : Nat → ClassId) (dI : Nat → Nat → Nat) (h0 sz : Nat) : Met l yX11_init wk_X11_init ({ frames := 5, cells := 105, slots := 10461, locals := 122 } : Room) (va_Pc [.ref h0] (fun U => U.heap.size = sz ∧ va_P (dC, dI) clx [(h0, .inr (11, dfX11))] U.heap ∧ va_K (dC, dI) clx [] U ∧ ev U)) (va_Qv (S := Unit) (fun _ => True) (fun _ t => xNew dC dI (va_A [(h0, .inr (11, dfX11))] sz) h0 t) (va_A [(h0, .inr (11, dfX11))] sz)) 105 10461 (va_A [(h0, .inr (11, dfX11))] sz) := by
  refine Met.ofW (cc := cX11_init) (maxL := 1) (ret := none) (by decide) rfl ?_
  intro p e s m args below meth c s₁ B hml hv
  obtain ⟨rfl, hsz, hP, hK, hev⟩ := hv
  have hx := B.exec
  have hb := B.bytes
  have hr := B.returns
  have hts := atoms_spec (ws := wk_X11_init) B.pre
  have hu : ∀ w ∈ wU, w.before (Value.ref h0 :: []).toArray s = true := fun w h => hts w (List.mem_cons_of_mem _ h)
  have hown : s.vm.findClass RX11 = some m.cls := findClass_of_methodNamed B.named
  have hlocks := B.notSynchronized
  have hin : meth.name = "<init>" := (name_of_methodNamed B.named B.method).1
  subst hsz
  have hD := va_D1 (sz := s.heap.size) h0 (.inr (11, dfX11))
  generalize hAe : va_A [(h0, .inr (11, dfX11))] s.heap.size = A at hD ⊢
  have hA : ∀ q : Nat, s.heap.size ≤ q → A q := fun q h => by rw [← hAe]; exact Or.inr h
  have hS : va_S A s.heap s.heap [] := va_S.rf
  have hP : va_P (dC, dI) clx [(h0, .inr (11, [.null, .int 0, .null, .int 0, .null, .int 0, .null, .null, .null, .null, .null, .null, .null, .null, .null, .null]))] s.heap := hP
  have hD : va_D A [(h0, .inr (11, [.null, .int 0, .null, .int 0, .null, .int 0, .null, .null, .null, .null, .null, .null, .null, .null, .null, .null]))] := hD
  have hl := lv_entry ([.ref h0]) (n := 1) (Nat.le_of_ble_eq_true rfl)
  rw [lg_entry_eq]
  generalize (lg_sl ([.ref h0]) ++ List.replicate (1 - (lg_sl ([.ref h0])).length) Slot.unset).toArray = ls at hl ⊢
  have hl : lv_has ls 1 [(0, .ref h0)] := hl
  refine lv_aload_n hx hb dX11_init_0 rfl (lv_at hl 0 rfl) ?_
  refine W.objInit hx hb hown (hu _ u95) (hu _ u1) (hu _ u2) rfl (by rw [hml]; exact hl.1) rfl dX11_init_1 (Nat.le_of_ble_eq_true rfl) (Nat.le_of_ble_eq_true rfl) ?_
  refine W.eq (g2 := F0 m 4 ls []) rfl ?_
  refine lv_aload_n hx hb dX11_init_4 rfl (lv_at hl 0 rfl) ?_
  refine lv_bipush (v := 40) hx hb dX11_init_5 (by decide) ?_
  refine va_newq (N' := 40) hx hb hown (hu _ u96) hev.2.1.1 hK hP hD hS hA (by decide) (by decide) (by decide) (Nat.le_of_ble_eq_true rfl) (Nat.le_of_ble_eq_true rfl) dX11_init_7 (fun q1 cy2 H hK hP hD hS => ?_)
  have hP : va_P (dC, dI) clx [(h0, .inr (11, [.null, .int 0, .null, .int 0, .null, .int 0, .null, .null, .null, .null, .null, .null, .null, .null, .null, .null])), (q1, .inl (cy2, 40, .inr (.inr (.inr (.inr (fun _ => none))))))] H := hP
  have hD : va_D A [(h0, .inr (11, [.null, .int 0, .null, .int 0, .null, .int 0, .null, .null, .null, .null, .null, .null, .null, .null, .null, .null])), (q1, .inl (cy2, 40, .inr (.inr (.inr (.inr (fun _ => none))))))] := hD
  have hK : va_K (dC, dI) clx [(cy2, .object RX2)] s := hK
  refine W.widen (k := 1) (n := 40) (Nat.le_of_ble_eq_true rfl) (Nat.le_of_ble_eq_true rfl) ?_
  refine va_putF (D := (dC, dI)) (ci := 11) (v := .ref q1) (ty := .array (.object "CubicBench$Curve")) (C := RX11) (T := TX11) (N := 16) hx hb hu iX11 tyX11 tyX11_ok nmX11 hown hK hP hD hS 0 rfl rfl 0 (by decide) (hu _ u97) (fun _ h9 => h9) rfl hin rfl (by decide +kernel) rfl rfl (Nat.le_of_ble_eq_true rfl) dX11_init_10 (fun H locs hP hD hS => ?_)
  have hP : va_P (dC, dI) clx [(h0, .inr (11, [.ref q1, .int 0, .null, .int 0, .null, .int 0, .null, .null, .null, .null, .null, .null, .null, .null, .null, .null])), (q1, .inl (cy2, 40, .inr (.inr (.inr (.inr (fun _ => none))))))] H := hP
  have hD : va_D A [(h0, .inr (11, [.ref q1, .int 0, .null, .int 0, .null, .int 0, .null, .null, .null, .null, .null, .null, .null, .null, .null, .null])), (q1, .inl (cy2, 40, .inr (.inr (.inr (.inr (fun _ => none))))))] := hD
  refine lv_aload_n hx hb dX11_init_13 rfl (lv_at hl 0 rfl) ?_
  refine lv_sipush (v := 400) hx hb dX11_init_14 (by decide) ?_
  refine px_anewJ hx hb hown (hu _ u98) hev.2.1.2 hP hS 400 (by decide) (by decide) (by decide) (Nat.le_of_ble_eq_true rfl) (Nat.le_of_ble_eq_true rfl) dX11_init_17 (fun q3 H hP hS => ?_)
  refine W.widen (k := 2) (n := 440) (Nat.le_of_ble_eq_true rfl) (Nat.le_of_ble_eq_true rfl) ?_
  refine va_putF (D := (dC, dI)) (ci := 11) (v := .ref q3) (ty := .array (.object "CubicBench$Spot")) (C := RX11) (T := TX11) (N := 16) hx hb hu iX11 tyX11 tyX11_ok nmX11 hown hK hP hD hS 0 rfl rfl 2 (by decide) (hu _ u99) (fun _ h9 => h9) rfl hin rfl (by decide +kernel) rfl rfl (Nat.le_of_ble_eq_true rfl) dX11_init_20 (fun H locs hP hD hS => ?_)
  have hP : va_P (dC, dI) clx [(h0, .inr (11, [.ref q1, .int 0, .ref q3, .int 0, .null, .int 0, .null, .null, .null, .null, .null, .null, .null, .null, .null, .null])), (q1, .inl (cy2, 40, .inr (.inr (.inr (.inr (fun _ => none))))))] H := hP
  have hD : va_D A [(h0, .inr (11, [.ref q1, .int 0, .ref q3, .int 0, .null, .int 0, .null, .null, .null, .null, .null, .null, .null, .null, .null, .null])), (q1, .inl (cy2, 40, .inr (.inr (.inr (.inr (fun _ => none))))))] := hD
  refine lv_aload_n hx hb dX11_init_23 rfl (lv_at hl 0 rfl) ?_
  refine lv_sipush (v := 256) hx hb dX11_init_24 (by decide) ?_
  refine px_newaJ (atype := .byte) hx hb (hu _ u27) hP hS 256 (by decide) (by decide) (by decide) (Nat.le_of_ble_eq_true rfl) (Nat.le_of_ble_eq_true rfl) dX11_init_27 (fun q4 H hP hS => ?_)
  refine W.widen (k := 3) (n := 696) (Nat.le_of_ble_eq_true rfl) (Nat.le_of_ble_eq_true rfl) ?_
  refine va_putF (D := (dC, dI)) (ci := 11) (v := .ref q4) (ty := .array .byte) (C := RX11) (T := TX11) (N := 16) hx hb hu iX11 tyX11 tyX11_ok nmX11 hown hK hP hD hS 0 rfl rfl 4 (by decide) (hu _ u100) (fun _ h9 => h9) rfl hin rfl (by decide +kernel) rfl rfl (Nat.le_of_ble_eq_true rfl) dX11_init_29 (fun H locs hP hD hS => ?_)
  have hP : va_P (dC, dI) clx [(h0, .inr (11, [.ref q1, .int 0, .ref q3, .int 0, .ref q4, .int 0, .null, .null, .null, .null, .null, .null, .null, .null, .null, .null])), (q1, .inl (cy2, 40, .inr (.inr (.inr (.inr (fun _ => none))))))] H := hP
  have hD : va_D A [(h0, .inr (11, [.ref q1, .int 0, .ref q3, .int 0, .ref q4, .int 0, .null, .null, .null, .null, .null, .null, .null, .null, .null, .null])), (q1, .inl (cy2, 40, .inr (.inr (.inr (.inr (fun _ => none))))))] := hD
  refine lv_aload_n hx hb dX11_init_32 rfl (lv_at hl 0 rfl) ?_
  refine px_new (ci := 9) (fs := dfX9) (C := RX9) (T := TX9) (N := 6) hx hb hu iX9 tyX9 tyX9_ok hown (hu _ u98) (hu _ u49) (hu _ u50) hK hP hS rfl dfX9_ok (Nat.le_of_ble_eq_true rfl) (Nat.le_of_ble_eq_true rfl) dX11_init_33 (fun q5 H hP hq hlt hq0 hS => ?_)
  refine W.widen (k := 4) (n := 702) (Nat.le_of_ble_eq_true rfl) (Nat.le_of_ble_eq_true rfl) ?_
  refine lv_dup hx hb dX11_init_36 rfl ?_
  refine lv_bipush (v := 16) hx hb dX11_init_37 (by decide) ?_
  refine px_initJ (As := [.int 16]) (rest := [.ref q5, .ref h0]) (nL := 1) (j_X9_init l 16 16 (by decide) (by decide) (by decide) (by decide)) ⟨hx, hb, hml, hown, hu⟩ (cwI 1 hu (gC u52) rfl rfl rfl (hu _ u50) (hu _ u101) (hu _ u51) rfl (by decide +kernel) ⟨(Nat.le_of_ble_eq_true rfl), (Nat.le_of_ble_eq_true rfl)⟩) (hK.sub [] rfl) hev hP hq hlt hq0 hS hA rfl hl.1 (Nat.le_of_ble_eq_true rfl) dX11_init_39 ⟨(Nat.le_of_ble_eq_true rfl), (Nat.le_of_ble_eq_true rfl)⟩ (fun H locs hP hS => ?_)
  refine W.widen (k := 10) (n := 903) (Nat.le_of_ble_eq_true rfl) (Nat.le_of_ble_eq_true rfl) ?_
  refine va_putF (D := (dC, dI)) (ci := 11) (v := .ref q5) (ty := .object "CubicBench$Spot") (C := RX11) (T := TX11) (N := 16) hx hb hu iX11 tyX11 tyX11_ok nmX11 hown hK hP hD hS 0 rfl rfl 6 (by decide) (hu _ u102) (fun _ h9 => h9) rfl hin rfl (by decide +kernel) rfl rfl (Nat.le_of_ble_eq_true rfl) dX11_init_42 (fun H locs hP hD hS => ?_)
  have hP : va_P (dC, dI) clx [(h0, .inr (11, [.ref q1, .int 0, .ref q3, .int 0, .ref q4, .int 0, .ref q5, .null, .null, .null, .null, .null, .null, .null, .null, .null])), (q1, .inl (cy2, 40, .inr (.inr (.inr (.inr (fun _ => none))))))] H := hP
  have hD : va_D A [(h0, .inr (11, [.ref q1, .int 0, .ref q3, .int 0, .ref q4, .int 0, .ref q5, .null, .null, .null, .null, .null, .null, .null, .null, .null])), (q1, .inl (cy2, 40, .inr (.inr (.inr (.inr (fun _ => none))))))] := hD
  refine lv_aload_n hx hb dX11_init_45 rfl (lv_at hl 0 rfl) ?_
  refine px_new (ci := 4) (fs := dfX4) (C := RX4) (T := TX4) (N := 17) hx hb hu iX4 tyX4 tyX4_ok hown (hu _ u103) (hu _ u104) (hu _ u105) hK hP hS rfl dfX4_ok (Nat.le_of_ble_eq_true rfl) (Nat.le_of_ble_eq_true rfl) dX11_init_46 (fun q6 H hP hq hlt hq0 hS => ?_)
  refine W.widen (k := 11) (n := 920) (Nat.le_of_ble_eq_true rfl) (Nat.le_of_ble_eq_true rfl) ?_
  refine lv_dup hx hb dX11_init_49 rfl ?_
  refine px_initJ (As := []) (rest := [.ref q6, .ref h0]) (nL := 1) (j_X4_init l) ⟨hx, hb, hml, hown, hu⟩ (cwI 0 hu (gC u107) rfl rfl rfl (hu _ u105) (hu _ u108) (hu _ u106) rfl (by decide +kernel) ⟨(Nat.le_of_ble_eq_true rfl), (Nat.le_of_ble_eq_true rfl)⟩) (hK.sub [] rfl) hev hP hq hlt hq0 hS hA rfl hl.1 (Nat.le_of_ble_eq_true rfl) dX11_init_50 ⟨(Nat.le_of_ble_eq_true rfl), (Nat.le_of_ble_eq_true rfl)⟩ (fun H locs hP hS => ?_)
  refine W.widen (k := 60) (n := 2479) (Nat.le_of_ble_eq_true rfl) (Nat.le_of_ble_eq_true rfl) ?_
  refine va_putF (D := (dC, dI)) (ci := 11) (v := .ref q6) (ty := .object "CubicBench$Fractions") (C := RX11) (T := TX11) (N := 16) hx hb hu iX11 tyX11 tyX11_ok nmX11 hown hK hP hD hS 0 rfl rfl 7 (by decide) (hu _ u109) (fun _ h9 => h9) rfl hin rfl (by decide +kernel) rfl rfl (Nat.le_of_ble_eq_true rfl) dX11_init_53 (fun H locs hP hD hS => ?_)
  have hP : va_P (dC, dI) clx [(h0, .inr (11, [.ref q1, .int 0, .ref q3, .int 0, .ref q4, .int 0, .ref q5, .ref q6, .null, .null, .null, .null, .null, .null, .null, .null])), (q1, .inl (cy2, 40, .inr (.inr (.inr (.inr (fun _ => none))))))] H := hP
  have hD : va_D A [(h0, .inr (11, [.ref q1, .int 0, .ref q3, .int 0, .ref q4, .int 0, .ref q5, .ref q6, .null, .null, .null, .null, .null, .null, .null, .null])), (q1, .inl (cy2, 40, .inr (.inr (.inr (.inr (fun _ => none))))))] := hD
  refine lv_aload_n hx hb dX11_init_56 rfl (lv_at hl 0 rfl) ?_
  refine px_new (ci := 7) (fs := dfX7) (C := RX7) (T := TX7) (N := 1) hx hb hu iX7 tyX7 tyX7_ok hown (hu _ u110) (hu _ u111) (hu _ u112) hK hP hS rfl dfX7_ok (Nat.le_of_ble_eq_true rfl) (Nat.le_of_ble_eq_true rfl) dX11_init_57 (fun q7 H hP hq hlt hq0 hS => ?_)
  refine W.widen (k := 61) (n := 2480) (Nat.le_of_ble_eq_true rfl) (Nat.le_of_ble_eq_true rfl) ?_
  refine lv_dup hx hb dX11_init_60 rfl ?_
  refine px_initJ (As := []) (rest := [.ref q7, .ref h0]) (nL := 1) (j_X7_init l) ⟨hx, hb, hml, hown, hu⟩ (cwI 0 hu (gC u114) rfl rfl rfl (hu _ u112) (hu _ u115) (hu _ u113) rfl (by decide +kernel) ⟨(Nat.le_of_ble_eq_true rfl), (Nat.le_of_ble_eq_true rfl)⟩) (hK.sub [] rfl) hev hP hq hlt hq0 hS hA rfl hl.1 (Nat.le_of_ble_eq_true rfl) dX11_init_61 ⟨(Nat.le_of_ble_eq_true rfl), (Nat.le_of_ble_eq_true rfl)⟩ (fun H locs hP hS => ?_)
  refine W.widen (k := 62) (n := 2544) (Nat.le_of_ble_eq_true rfl) (Nat.le_of_ble_eq_true rfl) ?_
  refine va_putF (D := (dC, dI)) (ci := 11) (v := .ref q7) (ty := .object "CubicBench$Rests") (C := RX11) (T := TX11) (N := 16) hx hb hu iX11 tyX11 tyX11_ok nmX11 hown hK hP hD hS 0 rfl rfl 8 (by decide) (hu _ u116) (fun _ h9 => h9) rfl hin rfl (by decide +kernel) rfl rfl (Nat.le_of_ble_eq_true rfl) dX11_init_64 (fun H locs hP hD hS => ?_)
  have hP : va_P (dC, dI) clx [(h0, .inr (11, [.ref q1, .int 0, .ref q3, .int 0, .ref q4, .int 0, .ref q5, .ref q6, .ref q7, .null, .null, .null, .null, .null, .null, .null])), (q1, .inl (cy2, 40, .inr (.inr (.inr (.inr (fun _ => none))))))] H := hP
  have hD : va_D A [(h0, .inr (11, [.ref q1, .int 0, .ref q3, .int 0, .ref q4, .int 0, .ref q5, .ref q6, .ref q7, .null, .null, .null, .null, .null, .null, .null])), (q1, .inl (cy2, 40, .inr (.inr (.inr (.inr (fun _ => none))))))] := hD
  refine lv_aload_n hx hb dX11_init_67 rfl (lv_at hl 0 rfl) ?_
  refine px_new (ci := 10) (fs := dfX10) (C := RX10) (T := TX10) (N := 4) hx hb hu iX10 tyX10 tyX10_ok hown (hu _ u117) (hu _ u118) (hu _ u119) hK hP hS rfl dfX10_ok (Nat.le_of_ble_eq_true rfl) (Nat.le_of_ble_eq_true rfl) dX11_init_68 (fun q8 H hP hq hlt hq0 hS => ?_)
  refine W.widen (k := 63) (n := 2548) (Nat.le_of_ble_eq_true rfl) (Nat.le_of_ble_eq_true rfl) ?_
  refine lv_dup hx hb dX11_init_71 rfl ?_
  refine px_initJ (As := []) (rest := [.ref q8, .ref h0]) (nL := 1) (j_X10_init l) ⟨hx, hb, hml, hown, hu⟩ (cwI 0 hu (gC u121) rfl rfl rfl (hu _ u119) (hu _ u122) (hu _ u120) rfl (by decide +kernel) ⟨(Nat.le_of_ble_eq_true rfl), (Nat.le_of_ble_eq_true rfl)⟩) (hK.sub [] rfl) hev hP hq hlt hq0 hS hA rfl hl.1 (Nat.le_of_ble_eq_true rfl) dX11_init_72 ⟨(Nat.le_of_ble_eq_true rfl), (Nat.le_of_ble_eq_true rfl)⟩ (fun H locs hP hS => ?_)
  refine W.widen (k := 65) (n := 2612) (Nat.le_of_ble_eq_true rfl) (Nat.le_of_ble_eq_true rfl) ?_
  refine va_putF (D := (dC, dI)) (ci := 11) (v := .ref q8) (ty := .object "CubicBench$Torsion") (C := RX11) (T := TX11) (N := 16) hx hb hu iX11 tyX11 tyX11_ok nmX11 hown hK hP hD hS 0 rfl rfl 9 (by decide) (hu _ u123) (fun _ h9 => h9) rfl hin rfl (by decide +kernel) rfl rfl (Nat.le_of_ble_eq_true rfl) dX11_init_75 (fun H locs hP hD hS => ?_)
  have hP : va_P (dC, dI) clx [(h0, .inr (11, [.ref q1, .int 0, .ref q3, .int 0, .ref q4, .int 0, .ref q5, .ref q6, .ref q7, .ref q8, .null, .null, .null, .null, .null, .null])), (q1, .inl (cy2, 40, .inr (.inr (.inr (.inr (fun _ => none))))))] H := hP
  have hD : va_D A [(h0, .inr (11, [.ref q1, .int 0, .ref q3, .int 0, .ref q4, .int 0, .ref q5, .ref q6, .ref q7, .ref q8, .null, .null, .null, .null, .null, .null])), (q1, .inl (cy2, 40, .inr (.inr (.inr (.inr (fun _ => none))))))] := hD
  refine lv_aload_n hx hb dX11_init_78 rfl (lv_at hl 0 rfl) ?_
  refine px_new (ci := 8) (fs := dfX8) (C := RX8) (T := TX8) (N := 4) hx hb hu iX8 tyX8 tyX8_ok hown (hu _ u124) (hu _ u125) (hu _ u126) hK hP hS rfl dfX8_ok (Nat.le_of_ble_eq_true rfl) (Nat.le_of_ble_eq_true rfl) dX11_init_79 (fun q9 H hP hq hlt hq0 hS => ?_)
  refine W.widen (k := 66) (n := 2616) (Nat.le_of_ble_eq_true rfl) (Nat.le_of_ble_eq_true rfl) ?_
  refine lv_dup hx hb dX11_init_82 rfl ?_
  refine px_initK (As := []) (rest := [.ref q9, .ref h0]) (nL := 1) (j_X8_init l) ⟨hx, hb, hml, hown, hu⟩ (cwI 0 hu (gC u128) rfl rfl rfl (hu _ u126) (hu _ u129) (hu _ u127) rfl (by decide +kernel) ⟨(Nat.le_of_ble_eq_true rfl), (Nat.le_of_ble_eq_true rfl)⟩) (hK.sub [] rfl) hev hP hD hq hlt hq0 hS hA rfl hl.1 (Nat.le_of_ble_eq_true rfl) dX11_init_83 ⟨(Nat.le_of_ble_eq_true rfl), (Nat.le_of_ble_eq_true rfl)⟩ (fun fu10 H locs hF11 hP hD hS => ?_)
  have hP : va_P (dC, dI) clx [(h0, .inr (11, [.ref q1, .int 0, .ref q3, .int 0, .ref q4, .int 0, .ref q5, .ref q6, .ref q7, .ref q8, .null, .null, .null, .null, .null, .null])), (q1, .inl (cy2, 40, .inr (.inr (.inr (.inr (fun _ => none)))))), (q9, .inr (8, fu10))] H := hP
  have hD : va_D A [(h0, .inr (11, [.ref q1, .int 0, .ref q3, .int 0, .ref q4, .int 0, .ref q5, .ref q6, .ref q7, .ref q8, .null, .null, .null, .null, .null, .null])), (q1, .inl (cy2, 40, .inr (.inr (.inr (.inr (fun _ => none)))))), (q9, .inr (8, fu10))] := hD
  refine W.widen (k := 69) (n := 2808) (Nat.le_of_ble_eq_true rfl) (Nat.le_of_ble_eq_true rfl) ?_
  refine va_putF (D := (dC, dI)) (ci := 11) (v := .ref q9) (ty := .object "CubicBench$Searching") (C := RX11) (T := TX11) (N := 16) hx hb hu iX11 tyX11 tyX11_ok nmX11 hown hK hP hD hS 0 rfl rfl 10 (by decide) (hu _ u130) (fun _ h9 => h9) rfl hin rfl (by decide +kernel) rfl rfl (Nat.le_of_ble_eq_true rfl) dX11_init_86 (fun H locs hP hD hS => ?_)
  have hP : va_P (dC, dI) clx [(h0, .inr (11, [.ref q1, .int 0, .ref q3, .int 0, .ref q4, .int 0, .ref q5, .ref q6, .ref q7, .ref q8, .ref q9, .null, .null, .null, .null, .null])), (q1, .inl (cy2, 40, .inr (.inr (.inr (.inr (fun _ => none)))))), (q9, .inr (8, fu10))] H := hP
  have hD : va_D A [(h0, .inr (11, [.ref q1, .int 0, .ref q3, .int 0, .ref q4, .int 0, .ref q5, .ref q6, .ref q7, .ref q8, .ref q9, .null, .null, .null, .null, .null])), (q1, .inl (cy2, 40, .inr (.inr (.inr (.inr (fun _ => none)))))), (q9, .inr (8, fu10))] := hD
  refine lv_aload_n hx hb dX11_init_89 rfl (lv_at hl 0 rfl) ?_
  refine px_new (ci := 6) (fs := dfX6) (C := RX6) (T := TX6) (N := 11) hx hb hu iX6 tyX6 tyX6_ok hown (hu _ u131) (hu _ u132) (hu _ u133) hK hP hS rfl dfX6_ok (Nat.le_of_ble_eq_true rfl) (Nat.le_of_ble_eq_true rfl) dX11_init_90 (fun q12 H hP hq hlt hq0 hS => ?_)
  refine W.widen (k := 70) (n := 2819) (Nat.le_of_ble_eq_true rfl) (Nat.le_of_ble_eq_true rfl) ?_
  refine lv_dup hx hb dX11_init_93 rfl ?_
  refine px_initJ (As := []) (rest := [.ref q12, .ref h0]) (nL := 1) (j_X6_init l) ⟨hx, hb, hml, hown, hu⟩ (cwI 0 hu (gC u135) rfl rfl rfl (hu _ u133) (hu _ u136) (hu _ u134) rfl (by decide +kernel) ⟨(Nat.le_of_ble_eq_true rfl), (Nat.le_of_ble_eq_true rfl)⟩) (hK.sub [] rfl) hev hP hq hlt hq0 hS hA rfl hl.1 (Nat.le_of_ble_eq_true rfl) dX11_init_94 ⟨(Nat.le_of_ble_eq_true rfl), (Nat.le_of_ble_eq_true rfl)⟩ (fun H locs hP hS => ?_)
  refine W.widen (k := 73) (n := 8931) (Nat.le_of_ble_eq_true rfl) (Nat.le_of_ble_eq_true rfl) ?_
  refine va_putF (D := (dC, dI)) (ci := 11) (v := .ref q12) (ty := .object "CubicBench$Listing") (C := RX11) (T := TX11) (N := 16) hx hb hu iX11 tyX11 tyX11_ok nmX11 hown hK hP hD hS 0 rfl rfl 11 (by decide) (hu _ u137) (fun _ h9 => h9) rfl hin rfl (by decide +kernel) rfl rfl (Nat.le_of_ble_eq_true rfl) dX11_init_97 (fun H locs hP hD hS => ?_)
  have hP : va_P (dC, dI) clx [(h0, .inr (11, [.ref q1, .int 0, .ref q3, .int 0, .ref q4, .int 0, .ref q5, .ref q6, .ref q7, .ref q8, .ref q9, .ref q12, .null, .null, .null, .null])), (q1, .inl (cy2, 40, .inr (.inr (.inr (.inr (fun _ => none)))))), (q9, .inr (8, fu10))] H := hP
  have hD : va_D A [(h0, .inr (11, [.ref q1, .int 0, .ref q3, .int 0, .ref q4, .int 0, .ref q5, .ref q6, .ref q7, .ref q8, .ref q9, .ref q12, .null, .null, .null, .null])), (q1, .inl (cy2, 40, .inr (.inr (.inr (.inr (fun _ => none)))))), (q9, .inr (8, fu10))] := hD
  refine lv_aload_n hx hb dX11_init_100 rfl (lv_at hl 0 rfl) ?_
  refine px_new (ci := 1) (fs := dfX1) (C := RX1) (T := TX1) (N := 6) hx hb hu iX1 tyX1 tyX1_ok hown (hu _ u138) (hu _ u139) (hu _ u140) hK hP hS rfl dfX1_ok (Nat.le_of_ble_eq_true rfl) (Nat.le_of_ble_eq_true rfl) dX11_init_101 (fun q13 H hP hq hlt hq0 hS => ?_)
  refine W.widen (k := 74) (n := 8937) (Nat.le_of_ble_eq_true rfl) (Nat.le_of_ble_eq_true rfl) ?_
  refine lv_dup hx hb dX11_init_104 rfl ?_
  refine px_initJ (As := []) (rest := [.ref q13, .ref h0]) (nL := 1) (j_X1_init l) ⟨hx, hb, hml, hown, hu⟩ (cwI 0 hu (gC u142) rfl rfl rfl (hu _ u140) (hu _ u143) (hu _ u141) rfl (by decide +kernel) ⟨(Nat.le_of_ble_eq_true rfl), (Nat.le_of_ble_eq_true rfl)⟩) (hK.sub [] rfl) hev hP hq hlt hq0 hS hA rfl hl.1 (Nat.le_of_ble_eq_true rfl) dX11_init_105 ⟨(Nat.le_of_ble_eq_true rfl), (Nat.le_of_ble_eq_true rfl)⟩ (fun H locs hP hS => ?_)
  refine W.widen (k := 79) (n := 9137) (Nat.le_of_ble_eq_true rfl) (Nat.le_of_ble_eq_true rfl) ?_
  refine va_putF (D := (dC, dI)) (ci := 11) (v := .ref q13) (ty := .object "CubicBench$Chain") (C := RX11) (T := TX11) (N := 16) hx hb hu iX11 tyX11 tyX11_ok nmX11 hown hK hP hD hS 0 rfl rfl 12 (by decide) (hu _ u144) (fun _ h9 => h9) rfl hin rfl (by decide +kernel) rfl rfl (Nat.le_of_ble_eq_true rfl) dX11_init_108 (fun H locs hP hD hS => ?_)
  have hP : va_P (dC, dI) clx [(h0, .inr (11, [.ref q1, .int 0, .ref q3, .int 0, .ref q4, .int 0, .ref q5, .ref q6, .ref q7, .ref q8, .ref q9, .ref q12, .ref q13, .null, .null, .null])), (q1, .inl (cy2, 40, .inr (.inr (.inr (.inr (fun _ => none)))))), (q9, .inr (8, fu10))] H := hP
  have hD : va_D A [(h0, .inr (11, [.ref q1, .int 0, .ref q3, .int 0, .ref q4, .int 0, .ref q5, .ref q6, .ref q7, .ref q8, .ref q9, .ref q12, .ref q13, .null, .null, .null])), (q1, .inl (cy2, 40, .inr (.inr (.inr (.inr (fun _ => none)))))), (q9, .inr (8, fu10))] := hD
  refine lv_aload_n hx hb dX11_init_111 rfl (lv_at hl 0 rfl) ?_
  refine px_new (ci := 1) (fs := dfX1) (C := RX1) (T := TX1) (N := 6) hx hb hu iX1 tyX1 tyX1_ok hown (hu _ u138) (hu _ u139) (hu _ u140) hK hP hS rfl dfX1_ok (Nat.le_of_ble_eq_true rfl) (Nat.le_of_ble_eq_true rfl) dX11_init_112 (fun q14 H hP hq hlt hq0 hS => ?_)
  refine W.widen (k := 80) (n := 9143) (Nat.le_of_ble_eq_true rfl) (Nat.le_of_ble_eq_true rfl) ?_
  refine lv_dup hx hb dX11_init_115 rfl ?_
  refine px_initJ (As := []) (rest := [.ref q14, .ref h0]) (nL := 1) (j_X1_init l) ⟨hx, hb, hml, hown, hu⟩ (cwI 0 hu (gC u142) rfl rfl rfl (hu _ u140) (hu _ u143) (hu _ u141) rfl (by decide +kernel) ⟨(Nat.le_of_ble_eq_true rfl), (Nat.le_of_ble_eq_true rfl)⟩) (hK.sub [] rfl) hev hP hq hlt hq0 hS hA rfl hl.1 (Nat.le_of_ble_eq_true rfl) dX11_init_116 ⟨(Nat.le_of_ble_eq_true rfl), (Nat.le_of_ble_eq_true rfl)⟩ (fun H locs hP hS => ?_)
  refine W.widen (k := 85) (n := 9343) (Nat.le_of_ble_eq_true rfl) (Nat.le_of_ble_eq_true rfl) ?_
  refine va_putF (D := (dC, dI)) (ci := 11) (v := .ref q14) (ty := .object "CubicBench$Chain") (C := RX11) (T := TX11) (N := 16) hx hb hu iX11 tyX11 tyX11_ok nmX11 hown hK hP hD hS 0 rfl rfl 13 (by decide) (hu _ u145) (fun _ h9 => h9) rfl hin rfl (by decide +kernel) rfl rfl (Nat.le_of_ble_eq_true rfl) dX11_init_119 (fun H locs hP hD hS => ?_)
  have hP : va_P (dC, dI) clx [(h0, .inr (11, [.ref q1, .int 0, .ref q3, .int 0, .ref q4, .int 0, .ref q5, .ref q6, .ref q7, .ref q8, .ref q9, .ref q12, .ref q13, .ref q14, .null, .null])), (q1, .inl (cy2, 40, .inr (.inr (.inr (.inr (fun _ => none)))))), (q9, .inr (8, fu10))] H := hP
  have hD : va_D A [(h0, .inr (11, [.ref q1, .int 0, .ref q3, .int 0, .ref q4, .int 0, .ref q5, .ref q6, .ref q7, .ref q8, .ref q9, .ref q12, .ref q13, .ref q14, .null, .null])), (q1, .inl (cy2, 40, .inr (.inr (.inr (.inr (fun _ => none)))))), (q9, .inr (8, fu10))] := hD
  refine lv_aload_n hx hb dX11_init_122 rfl (lv_at hl 0 rfl) ?_
  refine px_new (ci := 3) (fs := dfX3) (C := RX3) (T := TX3) (N := 13) hx hb hu iX3 tyX3 tyX3_ok hown (hu _ u146) (hu _ u147) (hu _ u148) hK hP hS rfl dfX3_ok (Nat.le_of_ble_eq_true rfl) (Nat.le_of_ble_eq_true rfl) dX11_init_123 (fun q15 H hP hq hlt hq0 hS => ?_)
  refine W.widen (k := 86) (n := 9356) (Nat.le_of_ble_eq_true rfl) (Nat.le_of_ble_eq_true rfl) ?_
  refine lv_dup hx hb dX11_init_126 rfl ?_
  refine px_initK (As := []) (rest := [.ref q15, .ref h0]) (nL := 1) (j_X3_init l) ⟨hx, hb, hml, hown, hu⟩ (cwI 0 hu (gC u150) rfl rfl rfl (hu _ u148) (hu _ u151) (hu _ u149) rfl (by decide +kernel) ⟨(Nat.le_of_ble_eq_true rfl), (Nat.le_of_ble_eq_true rfl)⟩) (hK.sub [] rfl) hev hP hD hq hlt hq0 hS hA rfl hl.1 (Nat.le_of_ble_eq_true rfl) dX11_init_127 ⟨(Nat.le_of_ble_eq_true rfl), (Nat.le_of_ble_eq_true rfl)⟩ (fun fu16 H locs hF17 hP hD hS => ?_)
  have hP : va_P (dC, dI) clx [(h0, .inr (11, [.ref q1, .int 0, .ref q3, .int 0, .ref q4, .int 0, .ref q5, .ref q6, .ref q7, .ref q8, .ref q9, .ref q12, .ref q13, .ref q14, .null, .null])), (q1, .inl (cy2, 40, .inr (.inr (.inr (.inr (fun _ => none)))))), (q9, .inr (8, fu10)), (q15, .inr (3, fu16))] H := hP
  have hD : va_D A [(h0, .inr (11, [.ref q1, .int 0, .ref q3, .int 0, .ref q4, .int 0, .ref q5, .ref q6, .ref q7, .ref q8, .ref q9, .ref q12, .ref q13, .ref q14, .null, .null])), (q1, .inl (cy2, 40, .inr (.inr (.inr (.inr (fun _ => none)))))), (q9, .inr (8, fu10)), (q15, .inr (3, fu16))] := hD
  refine W.widen (k := 104) (n := 10456) (Nat.le_of_ble_eq_true rfl) (Nat.le_of_ble_eq_true rfl) ?_
  refine va_putF (D := (dC, dI)) (ci := 11) (v := .ref q15) (ty := .object "CubicBench$Division") (C := RX11) (T := TX11) (N := 16) hx hb hu iX11 tyX11 tyX11_ok nmX11 hown hK hP hD hS 0 rfl rfl 14 (by decide) (hu _ u152) (fun _ h9 => h9) rfl hin rfl (by decide +kernel) rfl rfl (Nat.le_of_ble_eq_true rfl) dX11_init_130 (fun H locs hP hD hS => ?_)
  have hP : va_P (dC, dI) clx [(h0, .inr (11, [.ref q1, .int 0, .ref q3, .int 0, .ref q4, .int 0, .ref q5, .ref q6, .ref q7, .ref q8, .ref q9, .ref q12, .ref q13, .ref q14, .ref q15, .null])), (q1, .inl (cy2, 40, .inr (.inr (.inr (.inr (fun _ => none)))))), (q9, .inr (8, fu10)), (q15, .inr (3, fu16))] H := hP
  have hD : va_D A [(h0, .inr (11, [.ref q1, .int 0, .ref q3, .int 0, .ref q4, .int 0, .ref q5, .ref q6, .ref q7, .ref q8, .ref q9, .ref q12, .ref q13, .ref q14, .ref q15, .null])), (q1, .inl (cy2, 40, .inr (.inr (.inr (.inr (fun _ => none)))))), (q9, .inr (8, fu10)), (q15, .inr (3, fu16))] := hD
  refine lv_aload_n hx hb dX11_init_133 rfl (lv_at hl 0 rfl) ?_
  refine px_new (ci := 5) (fs := dfX5) (C := RX5) (T := TX5) (N := 5) hx hb hu iX5 tyX5 tyX5_ok hown (hu _ u153) (hu _ u154) (hu _ u155) hK hP hS rfl dfX5_ok (Nat.le_of_ble_eq_true rfl) (Nat.le_of_ble_eq_true rfl) dX11_init_134 (fun q18 H hP hq hlt hq0 hS => ?_)
  refine W.widen (k := 105) (n := 10461) (Nat.le_of_ble_eq_true rfl) (Nat.le_of_ble_eq_true rfl) ?_
  refine lv_dup hx hb dX11_init_137 rfl ?_
  refine px_initJ (As := []) (rest := [.ref q18, .ref h0]) (nL := 1) (j_X5_init l) ⟨hx, hb, hml, hown, hu⟩ (cwI 0 hu (gC u157) rfl rfl rfl (hu _ u155) (hu _ u158) (hu _ u156) rfl (by decide +kernel) ⟨(Nat.le_of_ble_eq_true rfl), (Nat.le_of_ble_eq_true rfl)⟩) (hK.sub [] rfl) hev hP hq hlt hq0 hS hA rfl hl.1 (Nat.le_of_ble_eq_true rfl) dX11_init_138 ⟨(Nat.le_of_ble_eq_true rfl), (Nat.le_of_ble_eq_true rfl)⟩ (fun H locs hP hS => ?_)
  refine W.widen (k := 105) (n := 10461) (Nat.le_of_ble_eq_true rfl) (Nat.le_of_ble_eq_true rfl) ?_
  refine va_putF (D := (dC, dI)) (ci := 11) (v := .ref q18) (ty := .object "CubicBench$Lead") (C := RX11) (T := TX11) (N := 16) hx hb hu iX11 tyX11 tyX11_ok nmX11 hown hK hP hD hS 0 rfl rfl 15 (by decide) (hu _ u159) (fun _ h9 => h9) rfl hin rfl (by decide +kernel) rfl rfl (Nat.le_of_ble_eq_true rfl) dX11_init_141 (fun H locs hP hD hS => ?_)
  have hP : va_P (dC, dI) clx [(h0, .inr (11, [.ref q1, .int 0, .ref q3, .int 0, .ref q4, .int 0, .ref q5, .ref q6, .ref q7, .ref q8, .ref q9, .ref q12, .ref q13, .ref q14, .ref q15, .ref q18])), (q1, .inl (cy2, 40, .inr (.inr (.inr (.inr (fun _ => none)))))), (q9, .inr (8, fu10)), (q15, .inr (3, fu16))] H := hP
  have hD : va_D A [(h0, .inr (11, [.ref q1, .int 0, .ref q3, .int 0, .ref q4, .int 0, .ref q5, .ref q6, .ref q7, .ref q8, .ref q9, .ref q12, .ref q13, .ref q14, .ref q15, .ref q18])), (q1, .inl (cy2, 40, .inr (.inr (.inr (.inr (fun _ => none)))))), (q9, .inr (8, fu10)), (q15, .inr (3, fu16))] := hD
  refine W.widen (k := 105) (n := 10461) (Nat.le_of_ble_eq_true rfl) (Nat.le_of_ble_eq_true rfl) ?_
  exact W.vret hx hb hr (fun t ht hW => ⟨⟨(), rfl, trivial, ⟨[.ref q1, .int 0, .ref q3, .int 0, .ref q4, .int 0, .ref q5, .ref q6, .ref q7, .ref q8, .ref q9, .ref q12, .ref q13, .ref q14, .ref q15, .ref q18], fu10, fu16, q1, q9, q15, cy2, ⟨⟨rfl, rfl, rfl, rfl, rfl, rfl, rfl, ⟨_, rfl⟩⟩, hF11, hF17⟩, (by rw [ht]; exact hP), va_K.moved hW.alike hK, hD⟩⟩, hS.F ht⟩) hS.2.2 dX11_init_144
