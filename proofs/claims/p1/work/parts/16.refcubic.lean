theorem dX15_cubic_0 : decode cX15_cubic 0 = .ok (.aload_n 0, 1) := by decide +kernel
theorem dX15_cubic_1 : decode cX15_cubic 1 = .ok (.iload_n 1, 1) := by decide +kernel
theorem dX15_cubic_2 : decode cX15_cubic 2 = .ok (.i2l, 1) := by decide +kernel
theorem dX15_cubic_3 : decode cX15_cubic 3 = .ok (.invokestatic 291, 3) := by decide +kernel
theorem dX15_cubic_6 : decode cX15_cubic 6 = .ok (.ifCond .ne 11, 3) := by decide +kernel
theorem dX15_cubic_9 : decode cX15_cubic 9 = .ok (.iload_n 2, 1) := by decide +kernel
theorem dX15_cubic_10 : decode cX15_cubic 10 = .ok (.i2l, 1) := by decide +kernel
theorem dX15_cubic_11 : decode cX15_cubic 11 = .ok (.invokestatic 291, 3) := by decide +kernel
theorem dX15_cubic_14 : decode cX15_cubic 14 = .ok (.ifCond .eq 7, 3) := by decide +kernel
theorem dX15_cubic_17 : decode cX15_cubic 17 = .ok (.iconst 1, 1) := by decide +kernel
theorem dX15_cubic_18 : decode cX15_cubic 18 = .ok (.goto 4, 3) := by decide +kernel
theorem dX15_cubic_21 : decode cX15_cubic 21 = .ok (.iconst 0, 1) := by decide +kernel
theorem dX15_cubic_22 : decode cX15_cubic 22 = .ok (.putfield 209, 3) := by decide +kernel
theorem dX15_cubic_25 : decode cX15_cubic 25 = .ok (.aload_n 0, 1) := by decide +kernel
theorem dX15_cubic_26 : decode cX15_cubic 26 = .ok (.getfield 209, 3) := by decide +kernel
theorem dX15_cubic_29 : decode cX15_cubic 29 = .ok (.ifCond .le 5, 3) := by decide +kernel
theorem dX15_cubic_32 : decode cX15_cubic 32 = .ok (.iconst 0, 1) := by decide +kernel
theorem dX15_cubic_33 : decode cX15_cubic 33 = .ok (.ireturn, 1) := by decide +kernel
theorem dX15_cubic_34 : decode cX15_cubic 34 = .ok (.iload_n 1, 1) := by decide +kernel
theorem dX15_cubic_35 : decode cX15_cubic 35 = .ok (.i2l, 1) := by decide +kernel
theorem dX15_cubic_36 : decode cX15_cubic 36 = .ok (.iload_n 2, 1) := by decide +kernel
theorem dX15_cubic_37 : decode cX15_cubic 37 = .ok (.i2l, 1) := by decide +kernel
theorem dX15_cubic_38 : decode cX15_cubic 38 = .ok (.iconst 0, 1) := by decide +kernel
theorem dX15_cubic_39 : decode cX15_cubic 39 = .ok (.invokestatic 295, 3) := by decide +kernel
theorem dX15_cubic_42 : decode cX15_cubic 42 = .ok (.lconst 0, 1) := by decide +kernel
theorem dX15_cubic_43 : decode cX15_cubic 43 = .ok (.lcmp, 1) := by decide +kernel
theorem dX15_cubic_44 : decode cX15_cubic 44 = .ok (.ifCond .ne 7, 3) := by decide +kernel
theorem dX15_cubic_47 : decode cX15_cubic 47 = .ok (.iconst (-1), 1) := by decide +kernel
theorem dX15_cubic_48 : decode cX15_cubic 48 = .ok (.goto 17, 3) := by decide +kernel
theorem dX15_cubic_51 : decode cX15_cubic 51 = .ok (.aload_n 0, 1) := by decide +kernel
theorem dX15_cubic_52 : decode cX15_cubic 52 = .ok (.aload_n 0, 1) := by decide +kernel
theorem dX15_cubic_53 : decode cX15_cubic 53 = .ok (.iload_n 1, 1) := by decide +kernel
theorem dX15_cubic_54 : decode cX15_cubic 54 = .ok (.i2l, 1) := by decide +kernel
theorem dX15_cubic_55 : decode cX15_cubic 55 = .ok (.iload_n 2, 1) := by decide +kernel
theorem dX15_cubic_56 : decode cX15_cubic 56 = .ok (.i2l, 1) := by decide +kernel
theorem dX15_cubic_57 : decode cX15_cubic 57 = .ok (.iconst 0, 1) := by decide +kernel
theorem dX15_cubic_58 : decode cX15_cubic 58 = .ok (.invokevirtual 299, 3) := by decide +kernel
theorem dX15_cubic_61 : decode cX15_cubic 61 = .ok (.iconst 2, 1) := by decide +kernel
theorem dX15_cubic_62 : decode cX15_cubic 62 = .ok (.invokevirtual 303, 3) := by decide +kernel
theorem dX15_cubic_65 : decode cX15_cubic 65 = .ok (.ireturn, 1) := by decide +kernel
def wk_X15_cubic : List Cond := .code yX15_cubic cX15_cubic 3 (some .int) :: wU
set_option maxHeartbeats 4000000 in
set_option maxRecDepth 100000 in
theorem bad_X15_cubic (l : Launch) (dC : Nat → ClassId) (dI : Nat → Nat → Nat) (h0 sz : Nat) (fs : List Value) (c0 d0 : Int32) (hlen : fs.length = 74) (hbd : bad c0 d0) : Met l yX15_cubic wk_X15_cubic ({ frames := 8, cells := 0, slots := 0, locals := 156 } : Room) (mP dC dI [(h0, .inr (15, fs))] [] sz [.ref h0, .int c0, .int d0]) (va_Qi (S := List Value) (fun r u => r = 0 ∧ u[0]? = some (.int 1)) (fun u t => va_P (dC, dI) clx [(h0, .inr (15, u))] t.heap) (va_A [(h0, .inr (15, fs))] sz)) 0 0 (va_A [(h0, .inr (15, fs))] sz) := by
  refine Met.ofW (cc := cX15_cubic) (maxL := 3) (ret := (some .int)) (by decide) rfl ?_
  intro p e s m args below meth c s₁ B hml hv
  obtain ⟨rfl, hsz, hP, hK, hD0⟩ := hv
  have hx := B.exec
  have hb := B.bytes
  have hr := B.returns
  have hts := atoms_spec (ws := wk_X15_cubic) B.pre
  have hu : ∀ w ∈ wU, w.before ([.ref h0, .int c0, .int d0] : List Value).toArray s = true := fun w h => hts w (List.mem_cons_of_mem _ h)
  have hown : s.vm.findClass RX15 = some m.cls := findClass_of_methodNamed B.named
  have hlocks := B.notSynchronized
  subst hsz
  have hD := hD0.self (sz := s.heap.size)
  generalize hAe : va_A [(h0, .inr (15, fs))] s.heap.size = A at hD ⊢
  have hA : ∀ q : Nat, s.heap.size ≤ q → A q := fun q h => by rw [← hAe]; exact Or.inr h
  have hS : va_S A s.heap s.heap [] := va_S.rf
  have hl := lv_entry ([.ref h0, .int c0, .int d0]) (n := 3) (Nat.le_of_ble_eq_true rfl)
  rw [lg_entry_eq]
  generalize (lg_sl ([.ref h0, .int c0, .int d0]) ++ List.replicate (3 - (lg_sl ([.ref h0, .int c0, .int d0])).length) Slot.unset).toArray = ls at hl ⊢
  have hl : lv_has ls 3 [(0, .ref h0), (1, .int c0), (2, .int d0)] := hl
  by_cases ha : c0 < -10000 ∨ 10000 < c0
  · skip
    refine lv_aload_n hx hb dX15_cubic_0 rfl (lv_at hl 0 rfl) ?_
    refine lv_iload_n hx hb dX15_cubic_1 rfl (lv_at hl 1 rfl) ?_
    refine lv_i2l hx hb dX15_cubic_2 rfl ?_
    refine va_calli (va_runS (As := [.long c0.toInt64]) (rest := [.ref h0]) ⟨hx, hb, hml, hown, hu⟩ (f_X15_isFar l (c0.toInt64)) (va_cwS 1 hu (gS u602 u603 u236 u604) rfl rfl rfl (by decide +kernel) ⟨(Nat.le_of_ble_eq_true rfl), (Nat.le_of_ble_eq_true rfl)⟩) ⟨fun a U g mk q => ⟨q.1, trivial⟩, fun U hU hW => ⟨rfl, trivial⟩⟩ rfl rfl hl.1 rfl (lv_room (Nat.le_of_ble_eq_true rfl)) dX15_cubic_3 ⟨Nat.zero_le _, Nat.zero_le _⟩) hS (fun q _ h => h.elim) (fun q h => h.elim) (fun r1 u9 t H locs ht hvm hw hB hz1 hk1 hS => ?_)
    have hP := px_kept hP (fun a ha => hk1 a ha id)
    have hw : r1 = 1 := hw.trans (far_out ha)
    subst hw
    refine lv_if_ne (tgt := 17) hx hb dX15_cubic_6 (by decide) (fun _ => ?_) (fun h9 => absurd h9 (by decide))
    refine lv_iconst (v := 1) hx hb dX15_cubic_17 (by decide) ?_
    refine lv_goto (tgt := 22) hx hb dX15_cubic_18 (by decide) ?_
    refine va_put (D := (dC, dI)) (ci := 15) (v := .int 1) (ty := .int) (C := RX15) (T := TX15) (N := 74) hx hb hu iX15 tyX15 tyX15_ok nmX15 hown hK hP hD hS 0 rfl rfl 0 (by decide) (hu _ u230) (fun _ h9 => h9) rfl (by decide +kernel) rfl rfl (by rw [hlen]; decide) dX15_cubic_22 (fun H locs hP hD hS => ?_)
    have hP : va_P (dC, dI) clx [(h0, .inr (15, (fs.set 0 (.int 1))))] H := hP
    have hD : va_D A [(h0, .inr (15, (fs.set 0 (.int 1))))] := hD
    refine lv_aload_n hx hb dX15_cubic_25 rfl (lv_at hl 0 rfl) ?_
    refine va_get (D := (dC, dI)) (ci := 15) (v := .int 1) (C := RX15) (T := TX15) (N := 74) hx hb hu iX15 hown hK hP 0 rfl rfl 0 (by decide) (hu _ u230) (fun _ h9 => h9) (List.getElem?_set_self (by rw [hlen]; decide)) dX15_cubic_26 ?_
    refine lv_if_le (tgt := 34) hx hb dX15_cubic_29 (by decide) (fun h9 => absurd h9 (by decide)) (fun _ => ?_)
    refine lv_iconst (v := 0) hx hb dX15_cubic_32 (by decide) ?_
    exact W.iret (v := 0) hx hb hr (fun t ht hW => ⟨⟨0, (fs.set 0 (.int 1)), rfl, ⟨rfl, List.getElem?_set_self (by rw [hlen]; decide)⟩, by show va_P _ _ _ t.heap; rw [ht]; exact hP⟩, hS.F ht⟩) hS.2.2 dX15_cubic_33
  · skip
    have hb9 : d0 < -10000 ∨ 10000 < d0 := by rcases hbd with h | h | h | h; exact absurd (Or.inl h) ha; exact absurd (Or.inr h) ha; exact Or.inl h; exact Or.inr h
    refine lv_aload_n hx hb dX15_cubic_0 rfl (lv_at hl 0 rfl) ?_
    refine lv_iload_n hx hb dX15_cubic_1 rfl (lv_at hl 1 rfl) ?_
    refine lv_i2l hx hb dX15_cubic_2 rfl ?_
    refine va_calli (va_runS (As := [.long c0.toInt64]) (rest := [.ref h0]) ⟨hx, hb, hml, hown, hu⟩ (f_X15_isFar l (c0.toInt64)) (va_cwS 1 hu (gS u602 u603 u236 u604) rfl rfl rfl (by decide +kernel) ⟨(Nat.le_of_ble_eq_true rfl), (Nat.le_of_ble_eq_true rfl)⟩) ⟨fun a U g mk q => ⟨q.1, trivial⟩, fun U hU hW => ⟨rfl, trivial⟩⟩ rfl rfl hl.1 rfl (lv_room (Nat.le_of_ble_eq_true rfl)) dX15_cubic_3 ⟨Nat.zero_le _, Nat.zero_le _⟩) hS (fun q _ h => h.elim) (fun q h => h.elim) (fun r1 u9 t H locs ht hvm hw hB hz1 hk1 hS => ?_)
    have hP := px_kept hP (fun a ha => hk1 a ha id)
    have hw : r1 = 0 := hw.trans (far_in (fun h => ha (Or.inl h)) (fun h => ha (Or.inr h)))
    subst hw
    refine lv_if_ne (tgt := 17) hx hb dX15_cubic_6 (by decide) (fun h9 => absurd (by decide) h9) (fun _ => ?_)
    refine lv_iload_n hx hb dX15_cubic_9 rfl (lv_at hl 2 rfl) ?_
    refine lv_i2l hx hb dX15_cubic_10 rfl ?_
    refine va_calli (va_runS (As := [.long d0.toInt64]) (rest := [.ref h0]) ⟨hx, hb, hml, hown, hu⟩ (f_X15_isFar l (d0.toInt64)) (va_cwS 1 hu (gS u602 u603 u236 u604) rfl rfl rfl (by decide +kernel) ⟨(Nat.le_of_ble_eq_true rfl), (Nat.le_of_ble_eq_true rfl)⟩) ⟨fun a U g mk q => ⟨q.1, trivial⟩, fun U hU hW => ⟨rfl, trivial⟩⟩ rfl rfl hl.1 rfl (lv_room (Nat.le_of_ble_eq_true rfl)) dX15_cubic_11 ⟨Nat.zero_le _, Nat.zero_le _⟩) hS (fun q _ h => h.elim) (fun q h => h.elim) (fun r2 u9 t H locs ht hvm hw hB hz1 hk1 hS => ?_)
    have hP := px_kept hP (fun a ha => hk1 a ha id)
    have hw : r2 = 1 := hw.trans (far_out hb9)
    subst hw
    refine lv_if_eq (tgt := 21) hx hb dX15_cubic_14 (by decide) (fun h9 => absurd h9 (by decide)) (fun _ => ?_)
    refine lv_iconst (v := 1) hx hb dX15_cubic_17 (by decide) ?_
    refine lv_goto (tgt := 22) hx hb dX15_cubic_18 (by decide) ?_
    refine va_put (D := (dC, dI)) (ci := 15) (v := .int 1) (ty := .int) (C := RX15) (T := TX15) (N := 74) hx hb hu iX15 tyX15 tyX15_ok nmX15 hown hK hP hD hS 0 rfl rfl 0 (by decide) (hu _ u230) (fun _ h9 => h9) rfl (by decide +kernel) rfl rfl (by rw [hlen]; decide) dX15_cubic_22 (fun H locs hP hD hS => ?_)
    have hP : va_P (dC, dI) clx [(h0, .inr (15, (fs.set 0 (.int 1))))] H := hP
    have hD : va_D A [(h0, .inr (15, (fs.set 0 (.int 1))))] := hD
    refine lv_aload_n hx hb dX15_cubic_25 rfl (lv_at hl 0 rfl) ?_
    refine va_get (D := (dC, dI)) (ci := 15) (v := .int 1) (C := RX15) (T := TX15) (N := 74) hx hb hu iX15 hown hK hP 0 rfl rfl 0 (by decide) (hu _ u230) (fun _ h9 => h9) (List.getElem?_set_self (by rw [hlen]; decide)) dX15_cubic_26 ?_
    refine lv_if_le (tgt := 34) hx hb dX15_cubic_29 (by decide) (fun h9 => absurd h9 (by decide)) (fun _ => ?_)
    refine lv_iconst (v := 0) hx hb dX15_cubic_32 (by decide) ?_
    exact W.iret (v := 0) hx hb hr (fun t ht hW => ⟨⟨0, (fs.set 0 (.int 1)), rfl, ⟨rfl, List.getElem?_set_self (by rw [hlen]; decide)⟩, by show va_P _ _ _ t.heap; rw [ht]; exact hP⟩, hS.F ht⟩) hS.2.2 dX15_cubic_33
set_option maxHeartbeats 4000000 in
set_option maxRecDepth 100000 in
theorem good_X15_cubic (l : Launch) (dC : Nat → ClassId) (dI : Nat → Nat → Nat) (h0 sz : Nat) (fs : List Value) (q1 q2 q3 q4 q5 q6 : Nat) (y1 y2 y3 y4 y5 y6 : ClassId) (c0 d0 : Int32) (hm : mOK fs q1 q2 q3 q4 q5 q6) (hg : ¬ bad c0 d0) : Met l yX15_cubic wk_X15_cubic ({ frames := 8, cells := 0, slots := 0, locals := 156 } : Room) (mP dC dI [(h0, .inr (15, fs)), (q1, .inl (y1, 40, .inr (.inl (fun _ => 0)))), (q2, .inl (y2, 40, .inr (.inl (fun _ => 0)))), (q3, .inl (y3, 40, .inl (fun _ => 0))), (q4, .inl (y4, 40, .inl (fun _ => 0))), (q5, .inl (y5, 40, .inl (fun _ => 0))), (q6, .inl (y6, 40, .inl (fun _ => 0)))] [(y1, .long), (y2, .long), (y3, .int), (y4, .int), (y5, .boolean), (y6, .boolean)] sz [.ref h0, .int c0, .int d0]) (va_Qi (S := List Value) (fun r u => r = rs c0 d0 ∧ u[0]? = some (.int 0)) (fun u t => va_P (dC, dI) clx [(h0, .inr (15, u))] t.heap) (va_A [(h0, .inr (15, fs)), (q1, .inl (y1, 40, .inr (.inl (fun _ => 0)))), (q2, .inl (y2, 40, .inr (.inl (fun _ => 0)))), (q3, .inl (y3, 40, .inl (fun _ => 0))), (q4, .inl (y4, 40, .inl (fun _ => 0))), (q5, .inl (y5, 40, .inl (fun _ => 0))), (q6, .inl (y6, 40, .inl (fun _ => 0)))] sz)) 0 0 (va_A [(h0, .inr (15, fs)), (q1, .inl (y1, 40, .inr (.inl (fun _ => 0)))), (q2, .inl (y2, 40, .inr (.inl (fun _ => 0)))), (q3, .inl (y3, 40, .inl (fun _ => 0))), (q4, .inl (y4, 40, .inl (fun _ => 0))), (q5, .inl (y5, 40, .inl (fun _ => 0))), (q6, .inl (y6, 40, .inl (fun _ => 0)))] sz) := by
  refine Met.ofW (cc := cX15_cubic) (maxL := 3) (ret := (some .int)) (by decide) rfl ?_
  intro p e s m args below meth c s₁ B hml hv
  obtain ⟨rfl, hsz, hP, hK, hD0⟩ := hv
  have hx := B.exec
  have hb := B.bytes
  have hr := B.returns
  have hts := atoms_spec (ws := wk_X15_cubic) B.pre
  have hu : ∀ w ∈ wU, w.before ([.ref h0, .int c0, .int d0] : List Value).toArray s = true := fun w h => hts w (List.mem_cons_of_mem _ h)
  have hown : s.vm.findClass RX15 = some m.cls := findClass_of_methodNamed B.named
  have hlocks := B.notSynchronized
  subst hsz
  have hD := hD0.self (sz := s.heap.size)
  generalize hAe : va_A [(h0, .inr (15, fs)), (q1, .inl (y1, 40, .inr (.inl (fun _ => 0)))), (q2, .inl (y2, 40, .inr (.inl (fun _ => 0)))), (q3, .inl (y3, 40, .inl (fun _ => 0))), (q4, .inl (y4, 40, .inl (fun _ => 0))), (q5, .inl (y5, 40, .inl (fun _ => 0))), (q6, .inl (y6, 40, .inl (fun _ => 0)))] s.heap.size = A at hD ⊢
  have hA : ∀ q : Nat, s.heap.size ≤ q → A q := fun q h => by rw [← hAe]; exact Or.inr h
  have hS : va_S A s.heap s.heap [] := va_S.rf
  have hl := lv_entry ([.ref h0, .int c0, .int d0]) (n := 3) (Nat.le_of_ble_eq_true rfl)
  rw [lg_entry_eq]
  generalize (lg_sl ([.ref h0, .int c0, .int d0]) ++ List.replicate (3 - (lg_sl ([.ref h0, .int c0, .int d0])).length) Slot.unset).toArray = ls at hl ⊢
  have hl : lv_has ls 3 [(0, .ref h0), (1, .int c0), (2, .int d0)] := hl
  have g1 : ¬ c0 < -10000 := fun h => hg (Or.inl h)
  have g2 : ¬ 10000 < c0 := fun h => hg (Or.inr (Or.inl h))
  have g3 : ¬ d0 < -10000 := fun h => hg (Or.inr (Or.inr (Or.inl h)))
  have g4 : ¬ 10000 < d0 := fun h => hg (Or.inr (Or.inr (Or.inr h)))
  refine lv_aload_n hx hb dX15_cubic_0 rfl (lv_at hl 0 rfl) ?_
  refine lv_iload_n hx hb dX15_cubic_1 rfl (lv_at hl 1 rfl) ?_
  refine lv_i2l hx hb dX15_cubic_2 rfl ?_
  refine va_calli (va_runS (As := [.long c0.toInt64]) (rest := [.ref h0]) ⟨hx, hb, hml, hown, hu⟩ (f_X15_isFar l (c0.toInt64)) (va_cwS 1 hu (gS u602 u603 u236 u604) rfl rfl rfl (by decide +kernel) ⟨(Nat.le_of_ble_eq_true rfl), (Nat.le_of_ble_eq_true rfl)⟩) ⟨fun a U g mk q => ⟨q.1, trivial⟩, fun U hU hW => ⟨rfl, trivial⟩⟩ rfl rfl hl.1 rfl (lv_room (Nat.le_of_ble_eq_true rfl)) dX15_cubic_3 ⟨Nat.zero_le _, Nat.zero_le _⟩) hS (fun q _ h => h.elim) (fun q h => h.elim) (fun r1 u9 t H locs ht hvm hw hB hz1 hk1 hS => ?_)
  have hP := px_kept hP (fun a ha => hk1 a ha id)
  have hw : r1 = 0 := hw.trans (far_in g1 g2)
  subst hw
  refine lv_if_ne (tgt := 17) hx hb dX15_cubic_6 (by decide) (fun h9 => absurd (by decide) h9) (fun _ => ?_)
  refine lv_iload_n hx hb dX15_cubic_9 rfl (lv_at hl 2 rfl) ?_
  refine lv_i2l hx hb dX15_cubic_10 rfl ?_
  refine va_calli (va_runS (As := [.long d0.toInt64]) (rest := [.ref h0]) ⟨hx, hb, hml, hown, hu⟩ (f_X15_isFar l (d0.toInt64)) (va_cwS 1 hu (gS u602 u603 u236 u604) rfl rfl rfl (by decide +kernel) ⟨(Nat.le_of_ble_eq_true rfl), (Nat.le_of_ble_eq_true rfl)⟩) ⟨fun a U g mk q => ⟨q.1, trivial⟩, fun U hU hW => ⟨rfl, trivial⟩⟩ rfl rfl hl.1 rfl (lv_room (Nat.le_of_ble_eq_true rfl)) dX15_cubic_11 ⟨Nat.zero_le _, Nat.zero_le _⟩) hS (fun q _ h => h.elim) (fun q h => h.elim) (fun r2 u9 t H locs ht hvm hw hB hz1 hk1 hS => ?_)
  have hP := px_kept hP (fun a ha => hk1 a ha id)
  have hw : r2 = 0 := hw.trans (far_in g3 g4)
  subst hw
  refine lv_if_eq (tgt := 21) hx hb dX15_cubic_14 (by decide) (fun _ => ?_) (fun h9 => absurd (by decide) h9)
  refine lv_iconst (v := 0) hx hb dX15_cubic_21 (by decide) ?_
  refine va_put (D := (dC, dI)) (ci := 15) (v := .int 0) (ty := .int) (C := RX15) (T := TX15) (N := 74) hx hb hu iX15 tyX15 tyX15_ok nmX15 hown hK hP hD hS 0 rfl rfl 0 (by decide) (hu _ u230) (fun _ h9 => h9) rfl (by decide +kernel) rfl rfl (by rw [hm.2.2.2.2.2.2.2.2.2.2.2.2]; decide) dX15_cubic_22 (fun H locs hP hD hS => ?_)
  have hP : va_P (dC, dI) clx [(h0, .inr (15, (fs.set 0 (.int 0)))), (q1, .inl (y1, 40, .inr (.inl (fun _ => 0)))), (q2, .inl (y2, 40, .inr (.inl (fun _ => 0)))), (q3, .inl (y3, 40, .inl (fun _ => 0))), (q4, .inl (y4, 40, .inl (fun _ => 0))), (q5, .inl (y5, 40, .inl (fun _ => 0))), (q6, .inl (y6, 40, .inl (fun _ => 0)))] H := hP
  have hD : va_D A [(h0, .inr (15, (fs.set 0 (.int 0)))), (q1, .inl (y1, 40, .inr (.inl (fun _ => 0)))), (q2, .inl (y2, 40, .inr (.inl (fun _ => 0)))), (q3, .inl (y3, 40, .inl (fun _ => 0))), (q4, .inl (y4, 40, .inl (fun _ => 0))), (q5, .inl (y5, 40, .inl (fun _ => 0))), (q6, .inl (y6, 40, .inl (fun _ => 0)))] := hD
  refine lv_aload_n hx hb dX15_cubic_25 rfl (lv_at hl 0 rfl) ?_
  refine va_get (D := (dC, dI)) (ci := 15) (v := .int 0) (C := RX15) (T := TX15) (N := 74) hx hb hu iX15 hown hK hP 0 rfl rfl 0 (by decide) (hu _ u230) (fun _ h9 => h9) (List.getElem?_set_self (by rw [hm.2.2.2.2.2.2.2.2.2.2.2.2]; decide)) dX15_cubic_26 ?_
  refine lv_if_le (tgt := 34) hx hb dX15_cubic_29 (by decide) (fun _ => ?_) (fun h9 => absurd (by decide) h9)
  refine lv_iload_n hx hb dX15_cubic_34 rfl (lv_at hl 1 rfl) ?_
  refine lv_i2l hx hb dX15_cubic_35 rfl ?_
  refine lv_iload_n hx hb dX15_cubic_36 rfl (lv_at hl 2 rfl) ?_
  refine lv_i2l hx hb dX15_cubic_37 rfl ?_
  refine lv_iconst (v := 0) hx hb dX15_cubic_38 (by decide) ?_
  refine va_calll (va_runS (As := [.long c0.toInt64, .long d0.toInt64, .int 0]) (rest := []) ⟨hx, hb, hml, hown, hu⟩ (f_X15_worth l (c0.toInt64) (d0.toInt64)) (va_cwS 3 hu (gS u605 u606 u236 u607) rfl rfl rfl (by decide +kernel) ⟨(Nat.le_of_ble_eq_true rfl), (Nat.le_of_ble_eq_true rfl)⟩) ⟨fun a U g mk q => ⟨q.1, trivial⟩, fun U hU hW => ⟨rfl, trivial⟩⟩ rfl rfl hl.1 rfl (lv_room (Nat.le_of_ble_eq_true rfl)) dX15_cubic_39 ⟨Nat.zero_le _, Nat.zero_le _⟩) hS (fun q _ h => h.elim) (fun q h => h.elim) (fun r3 u9 t H locs ht hvm hw hB hz1 hk1 hS => ?_)
  have hP := px_kept hP (fun a ha => hk1 a ha id)
  have hw : r3 = (wv c0 d0) := hw
  subst hw
  refine lv_lconst (v := 0) hx hb dX15_cubic_42 (by decide) ?_
  refine W.lcmp hx hb dX15_cubic_43 ?_
  refine lv_if_ne (tgt := 51) hx hb dX15_cubic_44 (by decide) (fun kz => ?_) (fun kz => ?_)
  · skip
    refine lv_aload_n hx hb dX15_cubic_51 rfl (lv_at hl 0 rfl) ?_
    refine lv_aload_n hx hb dX15_cubic_52 rfl (lv_at hl 0 rfl) ?_
    refine lv_iload_n hx hb dX15_cubic_53 rfl (lv_at hl 1 rfl) ?_
    refine lv_i2l hx hb dX15_cubic_54 rfl ?_
    refine lv_iload_n hx hb dX15_cubic_55 rfl (lv_at hl 2 rfl) ?_
    refine lv_i2l hx hb dX15_cubic_56 rfl ?_
    refine lv_iconst (v := 0) hx hb dX15_cubic_57 (by decide) ?_
    have hFc := va_free (wc := [(h0, .inr (15, (fs.set 0 (.int 0)))), (q1, .inl (y1, 40, .inr (.inl (fun _ => 0)))), (q2, .inl (y2, 40, .inr (.inl (fun _ => 0)))), (q3, .inl (y3, 40, .inl (fun _ => 0))), (q4, .inl (y4, 40, .inl (fun _ => 0))), (q5, .inl (y5, 40, .inl (fun _ => 0))), (q6, .inl (y6, 40, .inl (fun _ => 0)))]) hD hS hA [0, 1, 2, 3, 4, 5, 6] rfl
    have hm2 : mOK (fs.set 0 (.int 0)) q1 q2 q3 q4 q5 q6 := by
      obtain ⟨m0, m1, m2, m3, m4, m5, m6, m7, m8, m9, m10, m11, m12⟩ := hm
      exact ⟨List.getElem?_set_self (by rw [m12]; decide), by rw [List.getElem?_set_ne (by decide)]; exact m1, by rw [List.getElem?_set_ne (by decide)]; exact m2, by rw [List.getElem?_set_ne (by decide)]; exact m3, by rw [List.getElem?_set_ne (by decide)]; exact m4, by rw [List.getElem?_set_ne (by decide)]; exact m5, by rw [List.getElem?_set_ne (by decide)]; exact m6, by rw [List.getElem?_set_ne (by decide)]; exact m7, by rw [List.getElem?_set_ne (by decide)]; exact m8, by rw [List.getElem?_set_ne (by decide)]; exact m9, by rw [List.getElem?_set_ne (by decide)]; exact m10, by rw [List.getElem?_set_ne (by decide)]; exact m11, by rw [List.length_set]; exact m12⟩
    refine va_calli (va_runV (As := [.long c0.toInt64, .long d0.toInt64, .int 0]) (rest := [.ref h0]) ⟨hx, hb, hml, hown, hu⟩ (r_X15_cubicOf l dC dI h0 _ _ q1 q2 q3 q4 q5 q6 y1 y2 y3 y4 y5 y6 _ _ hm2) (cwV 3 hu (gV u608 u609 u610 u236 u611) rfl rfl rfl (by decide +kernel) ⟨(Nat.le_of_ble_eq_true rfl), (Nat.le_of_ble_eq_true rfl)⟩) ⟨mP_blind, va_recv hK hP (ci := 15) (q0 := 0) rfl rfl, mP_at hP hK hD⟩ rfl rfl hl.1 rfl (lv_room (Nat.le_of_ble_eq_true rfl)) dX15_cubic_58 ⟨Nat.zero_le _, Nat.zero_le _⟩) hS (fun q _ h => hFc q h) hFc (fun r5 u9 t H1 locs ht hvm hw hB hz1 hk1 hS => ?_)
    have hw : r5 = 0 := hw
    subst hw
    have hP : va_P (dC, dI) clx [(h0, .inr (15, ((fs.set 0 (.int 0)).set 12 (.int (0 + 1)))))] t.heap := hB
    rw [ht] at hP
    have hD : va_D A [(h0, .inr (15, ((fs.set 0 (.int 0)).set 12 (.int (0 + 1)))))] := (hD.sub (ws' := [(h0, .inr (15, (fs.set 0 (.int 0))))]) [0] (by decide) rfl).set (p := 0) rfl
    have hK := hK.sub (tys' := []) [] rfl
    refine lv_iconst (v := 2) hx hb dX15_cubic_61 (by decide) ?_
    have hFc := va_free (wc := [(h0, .inr (15, ((fs.set 0 (.int 0)).set 12 (.int (0 + 1)))))]) hD hS hA [0] rfl
    refine va_calli (va_runV (As := [.int 0, .int 2]) (rest := []) ⟨hx, hb, hml, hown, hu⟩ (r_X15_gives l dC dI h0 _ ((fs.set 0 (.int 0)).set 12 (.int (0 + 1))) (by rw [List.length_set, List.length_set]; exact hm.2.2.2.2.2.2.2.2.2.2.2.2)) (cwV 2 hu (gV u612 u613 u614 u236 u615) rfl rfl rfl (by decide +kernel) ⟨(Nat.le_of_ble_eq_true rfl), (Nat.le_of_ble_eq_true rfl)⟩) ⟨mP_blind, va_recv hK hP (ci := 15) (q0 := 0) rfl rfl, mP_at hP hK hD⟩ rfl rfl hl.1 rfl (lv_room (Nat.le_of_ble_eq_true rfl)) dX15_cubic_62 ⟨Nat.zero_le _, Nat.zero_le _⟩) hS (fun q _ h => hFc q h) hFc (fun r6 u9 t H1 locs ht hvm hw hB hz1 hk1 hS => ?_)
    have hw : r6 = 0 := hw
    subst hw
    have hP : va_P (dC, dI) clx [(h0, .inr (15, (((fs.set 0 (.int 0)).set 12 (.int (0 + 1))).set 0 (.int 0))))] t.heap := hB
    rw [ht] at hP
    exact W.iret (v := 0) hx hb hr (fun t ht hW => ⟨⟨0, (((fs.set 0 (.int 0)).set 12 (.int (0 + 1))).set 0 (.int 0)), rfl, ⟨by unfold rs; rw [if_neg (fun h => kz ((lg_cmp_eq _ _).mpr h))], List.getElem?_set_self (by rw [List.length_set, List.length_set, hm.2.2.2.2.2.2.2.2.2.2.2.2]; decide)⟩, by show va_P _ _ _ t.heap; rw [ht]; exact hP⟩, hS.F ht⟩) hS.2.2 dX15_cubic_65
  · skip
    refine lv_iconst (v := (-1)) hx hb dX15_cubic_47 (by decide) ?_
    refine lv_goto (tgt := 65) hx hb dX15_cubic_48 (by decide) ?_
    exact W.iret (v := (-1)) hx hb hr (fun t ht hW => ⟨⟨(-1), (fs.set 0 (.int 0)), rfl, ⟨by unfold rs; rw [if_pos ((lg_cmp_eq _ _).mp kz)], List.getElem?_set_self (by rw [hm.2.2.2.2.2.2.2.2.2.2.2.2]; decide)⟩, by show va_P _ _ _ t.heap; rw [ht]; exact (hP.sub [0] rfl)⟩, hS.F ht⟩) hS.2.2 dX15_cubic_65
