theorem st_xF {fs f8 f3 : List Value} {qc q8 q3 : Nat} (h : xOK fs f8 f3 qc q8 q3) : xF fs := ⟨h.1.2.1, h.1.2.2.1, h.1.2.2.2.1, h.1.2.2.2.2.2.2.1, h.1.2.2.2.2.2.2.2⟩
theorem st_xG {fs f8 f3 : List Value} {qc q8 q3 : Nat} (h : xOK fs f8 f3 qc q8 q3) : xG fs qc := ⟨h.1.1, h.1.2.1, h.1.2.2.2.2.2.2.1⟩
theorem st_mF {ms : List Value} {q1 q2 q3 q4 q5 q6 : Nat} (h : mOK ms q1 q2 q3 q4 q5 q6) : mF ms := ⟨h.2.1, h.2.2.1, h.2.2.2.1, h.2.2.2.2.1, h.2.2.2.2.2.1, h.2.2.2.2.2.2.2.2.2.2.2.2⟩
set_option maxHeartbeats 4000000 in
set_option maxRecDepth 100000 in
theorem law_go {p : Program} {e : Env} {s : State} {m : MethodId} {below : List Frame} {meth : Method} {c : Code} (l : Launch) (hst : l.stackTraces = false) {b : Nat} {xs : Nat → Int32} (C0 : lw_At p s m meth c b 4 xs) (hev : ev s) (hdv : dv s) (hZ : zz s.heap.size s s.heap) {dC : Nat → ClassId} {dI : Nat → Nat → Nat} {qx qm qo : Nat} {fs ms : List Value} {H : Heap} {f8 f3 : List Value} {qc q8 q9 q1 q2 q3 q4 q5 q6 : Nat} {cC cO y1 y2 y3 y4 y5 y6 : ClassId} (hO : xOK fs f8 f3 qc q8 q9) (hM : mOK ms q1 q2 q3 q4 q5 q6) (hK : va_K (dC, dI) clx [(cC, .object RX2), (y1, .long), (y2, .long), (y3, .int), (y4, .int), (y5, .boolean), (y6, .boolean), (cO, .long)] s) (hP : va_P (dC, dI) clx [(qx, .inr (11, fs)), (qc, .inl (cC, 40, .inr (.inr (.inr (.inr (fun _ => none)))))), (q8, .inr (8, f8)), (q9, .inr (3, f3)), (qm, .inr (15, ms)), (q1, .inl (y1, 40, .inr (.inl (fun _ => 0)))), (q2, .inl (y2, 40, .inr (.inl (fun _ => 0)))), (q3, .inl (y3, 40, .inl (fun _ => 0))), (q4, .inl (y4, 40, .inl (fun _ => 0))), (q5, .inl (y5, 40, .inl (fun _ => 0))), (q6, .inl (y6, 40, .inl (fun _ => 0))), (qo, .inl (cO, 1, .inr (.inl (fun _ => 0))))] H) (hD : va_D (nw s.heap.size) [(qx, .inr (11, fs)), (qc, .inl (cC, 40, .inr (.inr (.inr (.inr (fun _ => none)))))), (q8, .inr (8, f8)), (q9, .inr (3, f3)), (qm, .inr (15, ms)), (q1, .inl (y1, 40, .inr (.inl (fun _ => 0)))), (q2, .inl (y2, 40, .inr (.inl (fun _ => 0)))), (q3, .inl (y3, 40, .inl (fun _ => 0))), (q4, .inl (y4, 40, .inl (fun _ => 0))), (q5, .inl (y5, 40, .inl (fun _ => 0))), (q6, .inl (y6, 40, .inl (fun _ => 0))), (qo, .inl (cO, 1, .inr (.inl (fun _ => 0))))]) {locs : List Loc} (hS : va_S (nw s.heap.size) s.heap H locs) {ls : Array Slot} (hl : lv_has ls 8 [(4, .int 0), (3, .ref qo), (2, .ref qm), (1, .ref qx), (0, .ref b)]) : W p l e room_1 s m #[Value.ref b] below meth c H locs 340 146681 (lw_Z below #[Value.ref b] s) (F0 m 23 ls []) := by
  obtain ⟨hx, hb, hr, hml, hown, hts, hX, hbl, hlocks, hgv⟩ := id C0
  have hu : ∀ w ∈ wU, w.before #[Value.ref b] s = true := fun w h => hts w (wU_sub h)
  have hown : s.vm.findClass RL = some m.cls := hown
  have hA : ∀ q : Nat, s.heap.size ≤ q → nw s.heap.size q := fun _ h => h
  have hbA : ¬ nw s.heap.size b := Nat.not_le.mpr hbl
  refine lv_iload hx hb dL_law_23 (lv_at hl 0 rfl) ?_
  refine lv_aload_n hx hb dL_law_25 rfl (lv_at hl 4 rfl) ?_
  refine va_slen hx hb hX hbl hbA hS dL_law_26 ?_
  refine lv_iconst (v := 4) hx hb dL_law_27 (by decide) ?_
  refine lv_isub hx hb dL_law_28 ?_
  refine lv_icmp_gt (tgt := 1839) hx hb dL_law_29 (by decide) (fun h9 => absurd h9 (by decide)) (fun _ => ?_)
  refine lv_aload_n hx hb dL_law_32 rfl (lv_at hl 4 rfl) ?_
  refine lv_iload hx hb dL_law_33 (lv_at hl 0 rfl) ?_
  refine va_sld hx hb hX hbl hbA hS in_0 dL_law_35 ?_
  refine lv_bipush (v := 31) hx hb dL_law_36 (by decide) ?_
  refine lv_iand hx hb dL_law_38 ?_
  obtain ⟨j, hj, ej⟩ := pk_andE (xs (0 : Int32).toNatClampNeg) (m := 31) 5 (by decide)
  rw [ej]
  clear ej
  have hf := st_xF hO
  have hm := st_mF hM
  have hK0 := hK.sub (tys' := []) [] rfl
  have hPx := hP.sub (ws' := [(qx, .inr (11, fs))]) [0] rfl
  have hPm := hP.sub (ws' := [(qm, .inr (15, ms))]) [4] rfl
  have hDm := hD.sub (ws' := [(qm, .inr (15, ms))]) [4] (by decide) rfl
  match j, hj with
  | 0, _ =>
    refine lv_tableIn (x := nI 0) (off := 125) (tgt := 164) hx hb dL_law_39 (by decide) (by decide) (by decide) (by decide) ?_
    exact law_cubic l hst C0 hev hdv hZ (st_xG hO) hM (hK.sub (tys' := [(cC, .object RX2), (cO, .long), (y1, .long), (y2, .long), (y3, .int), (y4, .int), (y5, .boolean), (y6, .boolean)]) [0, 7, 1, 2, 3, 4, 5, 6] rfl) (hP.sub (ws' := [(qx, .inr (11, fs)), (qc, .inl (cC, 40, .inr (.inr (.inr (.inr (fun _ => none)))))), (qo, .inl (cO, 1, .inr (.inl (fun _ => 0)))), (qm, .inr (15, ms)), (q1, .inl (y1, 40, .inr (.inl (fun _ => 0)))), (q2, .inl (y2, 40, .inr (.inl (fun _ => 0)))), (q3, .inl (y3, 40, .inl (fun _ => 0))), (q4, .inl (y4, 40, .inl (fun _ => 0))), (q5, .inl (y5, 40, .inl (fun _ => 0))), (q6, .inl (y6, 40, .inl (fun _ => 0)))]) [0, 1, 11, 4, 5, 6, 7, 8, 9, 10] rfl) (hD.sub (ws' := [(qx, .inr (11, fs)), (qc, .inl (cC, 40, .inr (.inr (.inr (.inr (fun _ => none)))))), (qo, .inl (cO, 1, .inr (.inl (fun _ => 0)))), (qm, .inr (15, ms)), (q1, .inl (y1, 40, .inr (.inl (fun _ => 0)))), (q2, .inl (y2, 40, .inr (.inl (fun _ => 0)))), (q3, .inl (y3, 40, .inl (fun _ => 0))), (q4, .inl (y4, 40, .inl (fun _ => 0))), (q5, .inl (y5, 40, .inl (fun _ => 0))), (q6, .inl (y6, 40, .inl (fun _ => 0)))]) [0, 1, 11, 4, 5, 6, 7, 8, 9, 10] (by decide) rfl) hS hl
  | 1, _ =>
    refine lv_tableIn (x := nI 1) (off := 193) (tgt := 232) hx hb dL_law_39 (by decide) (by decide) (by decide) (by decide) ?_
    exact law_rest l hst C0 hev hdv hZ hf hm hK0 hPx hPm hDm hS hl
  | 2, _ =>
    refine lv_tableIn (x := nI 2) (off := 261) (tgt := 300) hx hb dL_law_39 (by decide) (by decide) (by decide) (by decide) ?_
    exact law_turned l hst C0 hev hdv hZ hf hm hK0 hPx hPm hDm hS hl
  | 3, _ =>
    refine lv_tableIn (x := nI 3) (off := 317) (tgt := 356) hx hb dL_law_39 (by decide) (by decide) (by decide) (by decide) ?_
    exact law_about l hst C0 hev hdv hZ hf hm hK0 hPx hPm hDm hS hl
  | 4, _ =>
    refine lv_tableIn (x := nI 4) (off := 384) (tgt := 423) hx hb dL_law_39 (by decide) (by decide) (by decide) (by decide) ?_
    exact law_far l hst C0 hev hdv hZ hf hm hK0 hPx hPm hDm hS hl
  | 5, _ =>
    refine lv_tableIn (x := nI 5) (off := 440) (tgt := 479) hx hb dL_law_39 (by decide) (by decide) (by decide) (by decide) ?_
    exact law_point l hst C0 hev hdv hZ hf hm hK0 hPx hPm hDm hS hl
  | 6, _ =>
    refine lv_tableIn (x := nI 6) (off := 520) (tgt := 559) hx hb dL_law_39 (by decide) (by decide) (by decide) (by decide) ?_
    exact law_add l hst C0 hev hdv hZ hf hm hK0 hPx hPm hDm hS hl
  | 7, _ =>
    refine lv_tableIn (x := nI 7) (off := 588) (tgt := 627) hx hb dL_law_39 (by decide) (by decide) (by decide) (by decide) ?_
    exact law_mirror l hst C0 hev hdv hZ hf hm hK0 hPx hPm hDm hS hl
  | 8, _ =>
    refine lv_tableIn (x := nI 8) (off := 644) (tgt := 683) hx hb dL_law_39 (by decide) (by decide) (by decide) (by decide) ?_
    exact law_times l hst C0 hev hdv hZ hf hm hK0 hPx hPm hDm hS hl
  | 9, _ =>
    refine lv_tableIn (x := nI 9) (off := 712) (tgt := 751) hx hb dL_law_39 (by decide) (by decide) (by decide) (by decide) ?_
    exact law_order l hst C0 hev hdv hZ hf hm hK0 hPx hPm hDm hS hl
  | 10, _ =>
    refine lv_tableIn (x := nI 10) (off := 768) (tgt := 807) hx hb dL_law_39 (by decide) (by decide) (by decide) (by decide) ?_
    exact law_told l hst C0 hev hdv hZ hf hm hK0 hPx hPm hDm hS hl
  | 11, _ =>
    refine lv_tableIn (x := nI 11) (off := 836) (tgt := 875) hx hb dL_law_39 (by decide) (by decide) (by decide) (by decide) ?_
    exact law_print l hst C0 hev hdv hZ hf hm hK0 hPx hPm hDm hS hl
  | 12, _ =>
    refine lv_tableIn (x := nI 12) (off := 904) (tgt := 943) hx hb dL_law_39 (by decide) (by decide) (by decide) (by decide) ?_
    exact law_back l hst C0 hev hdv hZ hf hm hK0 hPx hPm hDm hS hl
  | 13, _ =>
    refine lv_tableIn (x := nI 13) (off := 960) (tgt := 999) hx hb dL_law_39 (by decide) (by decide) (by decide) (by decide) ?_
    exact law_backAt l hst C0 hev hdv hZ hf hm hK0 hPx hPm hDm hS hl
  | 14, _ =>
    refine lv_tableIn (x := nI 14) (off := 1028) (tgt := 1067) hx hb dL_law_39 (by decide) (by decide) (by decide) (by decide) ?_
    exact law_search l hst C0 hev hdv hZ hf hm hK0 hPx hPm hDm hS hl
  | 15, _ =>
    refine lv_tableIn (x := nI 15) (off := 1096) (tgt := 1135) hx hb dL_law_39 (by decide) (by decide) (by decide) (by decide) ?_
    exact law_found l hst C0 hev hdv hZ hf hm hK0 hPx hPm hDm hO.1.2.2.2.2.1 hO.2.1.1 (hP.sub (ws' := [(qx, .inr (11, fs)), (q8, .inr (8, f8))]) [0, 2] rfl) hS hl
  | 16, _ =>
    refine lv_tableIn (x := nI 16) (off := 1163) (tgt := 1202) hx hb dL_law_39 (by decide) (by decide) (by decide) (by decide) ?_
    exact law_count l hst C0 hev hdv hZ hf hm hK0 hPx hPm hDm hS hl
  | 17, _ =>
    refine lv_tableIn (x := nI 17) (off := 1219) (tgt := 1258) hx hb dL_law_39 (by decide) (by decide) (by decide) (by decide) ?_
    exact law_over l hst C0 hev hdv hZ hf hm hK0 hPx hPm hDm hS hl
  | 18, _ =>
    refine lv_tableIn (x := nI 18) (off := 1286) (tgt := 1325) hx hb dL_law_39 (by decide) (by decide) (by decide) (by decide) ?_
    exact law_list l hst C0 hev hdv hZ hf hm hK0 hPx hPm hDm hS hl
  | 19, _ =>
    refine lv_tableIn (x := nI 19) (off := 1354) (tgt := 1393) hx hb dL_law_39 (by decide) (by decide) (by decide) (by decide) ?_
    exact law_group l hst C0 hev hdv hZ hf hm hK0 hPx hPm hDm hS hl
  | 20, _ =>
    refine lv_tableIn (x := nI 20) (off := 1422) (tgt := 1461) hx hb dL_law_39 (by decide) (by decide) (by decide) (by decide) ?_
    exact law_pair l hst C0 hev hdv hZ hf hm hK0 hPx hPm hDm hS hl
  | 21, _ =>
    refine lv_tableIn (x := nI 21) (off := 1502) (tgt := 1541) hx hb dL_law_39 (by decide) (by decide) (by decide) (by decide) ?_
    exact law_polynomial l hst C0 hev hdv hZ hf hm hK0 hPx hPm hDm hS hl
  | 22, _ =>
    refine lv_tableIn (x := nI 22) (off := 1570) (tgt := 1609) hx hb dL_law_39 (by decide) (by decide) (by decide) (by decide) ?_
    exact law_coefficient l hst C0 hev hdv hZ hf hm hK0 hPx hPm hDm hO.1.2.2.2.2.2.1 hO.2.2.1 hO.2.2.2.1 (hP.sub (ws' := [(qx, .inr (11, fs)), (q9, .inr (3, f3))]) [0, 3] rfl) (hD.sub (ws' := [(qx, .inr (11, fs)), (q9, .inr (3, f3))]) [0, 3] (by decide) rfl) hS hl
  | 23, _ =>
    refine lv_tableIn (x := nI 23) (off := 1595) (tgt := 1634) hx hb dL_law_39 (by decide) (by decide) (by decide) (by decide) ?_
    exact law_root l hst C0 hev hdv hZ hf hm hK0 hPx hPm hDm hO.1.2.2.2.2.2.1 hO.2.2.1 hO.2.2.2.1 (hP.sub (ws' := [(qx, .inr (11, fs)), (q9, .inr (3, f3))]) [0, 3] rfl) (hD.sub (ws' := [(qx, .inr (11, fs)), (q9, .inr (3, f3))]) [0, 3] (by decide) rfl) hS hl
  | 24, _ =>
    refine lv_tableIn (x := nI 24) (off := 1620) (tgt := 1659) hx hb dL_law_39 (by decide) (by decide) (by decide) (by decide) ?_
    exact law_led l hst C0 hev hdv hZ hf hm hK0 hPx hPm hDm hS hl
  | 25, _ =>
    refine lv_tableIn (x := nI 25) (off := 1676) (tgt := 1715) hx hb dL_law_39 (by decide) (by decide) (by decide) (by decide) ?_
    exact law_through l hst C0 hev hdv hZ hf hm hK0 hPx hPm hDm hS hl
  | 26, _ =>
    refine lv_tableIn (x := nI 26) (off := 1744) (tgt := 1783) hx hb dL_law_39 (by decide) (by decide) (by decide) (by decide) ?_
    exact law_counted l hst C0 hev hdv hZ hf hm hK0 hPx hPm hDm (hD.sub (ws' := [(qx, .inr (11, fs))]) [0] (by decide) rfl) hS hl
  | 27, _ =>
    refine lv_tableIn (x := nI 27) (off := 1769) (tgt := 1808) hx hb dL_law_39 (by decide) (by decide) (by decide) (by decide) ?_
    exact law_octet l hst C0 hev hdv hZ hf hm hK0 hPx hPm hDm (hD.sub (ws' := [(qx, .inr (11, fs))]) [0] (by decide) rfl) hS hl
  | 28, _ =>
    refine lv_tableOut (x := nI 28) (tgt := 1833) hx hb dL_law_39 (Or.inr (by decide)) (by decide) ?_
    exact law_next l C0 (Nat.le_of_ble_eq_true rfl) (Nat.le_of_ble_eq_true rfl) hS (lv_sub hl [0, 4] rfl)
  | 29, _ =>
    refine lv_tableOut (x := nI 29) (tgt := 1833) hx hb dL_law_39 (Or.inr (by decide)) (by decide) ?_
    exact law_next l C0 (Nat.le_of_ble_eq_true rfl) (Nat.le_of_ble_eq_true rfl) hS (lv_sub hl [0, 4] rfl)
  | 30, _ =>
    refine lv_tableOut (x := nI 30) (tgt := 1833) hx hb dL_law_39 (Or.inr (by decide)) (by decide) ?_
    exact law_next l C0 (Nat.le_of_ble_eq_true rfl) (Nat.le_of_ble_eq_true rfl) hS (lv_sub hl [0, 4] rfl)
  | 31, _ =>
    refine lv_tableOut (x := nI 31) (tgt := 1833) hx hb dL_law_39 (Or.inr (by decide)) (by decide) ?_
    exact law_next l C0 (Nat.le_of_ble_eq_true rfl) (Nat.le_of_ble_eq_true rfl) hS (lv_sub hl [0, 4] rfl)
  | j + 32, hj => exact absurd hj (by omega)
set_option maxHeartbeats 4000000 in
set_option maxRecDepth 100000 in
theorem whole_start {p : Program} {e : Env} {s : State} {m : MethodId} {below : List Frame} {meth : Method} {c : Code} (l : Launch) (hst : l.stackTraces = false) {b L : Nat} {xs : Nat → Int32} (hL : L ≤ 4) (C0 : lw_At p s m meth c b L xs) : W p l e room_1 s m #[Value.ref b] below meth c s.heap [] 0 0 (lw_Z below #[Value.ref b] s) (entryFrame m ([Value.ref b] : List Value).toArray 8) := by
  obtain ⟨hx, hb, hr, hml, hown, hts, hX, hbl, hlocks, hgv⟩ := id C0
  have hu : ∀ w ∈ wU, w.before #[Value.ref b] s = true := fun w h => hts w (wU_sub h)
  have hown : s.vm.findClass RL = some m.cls := hown
  have hA : ∀ q : Nat, s.heap.size ≤ q → nw s.heap.size q := fun _ h => h
  have hev := st_ev hts hgv
  have hdv := st_dv hts
  have hZ := st_zz hts hgv
  obtain ⟨dC, dI, hK⟩ := st_known hts
  have hS : va_S (nw s.heap.size) s.heap s.heap [] := va_S.rf
  have hP : va_P (dC, dI) clx [] s.heap := fun k q h => by simp at h
  have hD : va_D (nw s.heap.size) [] := ⟨fun i j p q h => by simp at h, fun k q h => by simp at h⟩
  have hl := lv_entry ([.ref b]) (n := 8) (Nat.le_of_ble_eq_true rfl)
  rw [lg_entry_eq]
  generalize (lg_sl ([.ref b]) ++ List.replicate (8 - (lg_sl ([.ref b])).length) Slot.unset).toArray = ls at hl ⊢
  have hl : lv_has ls 8 [(0, .ref b)] := hl
  refine va_new (ci := 11) (fs := dfX11) (C := RX11) (T := TX11) (N := 16) hx hb hu iX11 tyX11 tyX11_ok hown (hu _ u856) (hu _ u857) (hu _ u432) hK hP hD hS hA rfl dfX11_ok (Nat.le_of_ble_eq_true rfl) (Nat.le_of_ble_eq_true rfl) dL_law_0 (fun qx H hP hD hS => ?_)
  have hP : va_P (dC, dI) clx [(qx, .inr (11, dfX11))] H := hP
  have hD : va_D (nw s.heap.size) [(qx, .inr (11, dfX11))] := hD
  refine lv_dup hx hb dL_law_3 rfl ?_
  have hFc := va_free (wc := [(qx, .inr (11, dfX11))]) hD hS hA [0] rfl
  refine va_callv (va_runI (As := []) (rest := [.ref qx]) ⟨hx, hb, hml, hown, hu⟩ (k_X11_init l dC dI qx H.size) (cwI 0 hu (gC u858) rfl rfl rfl (hu _ u432) (hu _ u859) (hu _ u860) rfl (by decide +kernel) ⟨(Nat.le_of_ble_eq_true rfl), (Nat.le_of_ble_eq_true rfl)⟩) (px_initP hK hev hP) rfl rfl hl.1 rfl (lv_room (Nat.le_of_ble_eq_true rfl)) dL_law_4 ⟨(Nat.le_of_ble_eq_true rfl), (Nat.le_of_ble_eq_true rfl)⟩) hS (fun q _ h => hFc q h) hFc (fun u t H1 locs ht hvm hw hB hz1 hk1 hS => ?_)
  obtain ⟨fs, f8, f3, qc, q8, q9, cC, hO, hP1, hK1, hD1⟩ := hB
  rw [ht] at hP1
  have hK1 := va_K.moved hvm.symm hK1
  obtain ⟨hP, hD⟩ := va_join (wr := []) (w1 := [(qx, .inr (11, fs)), (qc, .inl (cC, 40, .inr (.inr (.inr (.inr (fun _ => none)))))), (q8, .inr (8, f8)), (q9, .inr (3, f3))]) hP hD [0] [] rfl rfl (by decide) (by decide) hk1 hFc hP1 hD1
  have hK := hK.app hK1
  generalize H1 = H at hP hS ⊢
  have hP : va_P (dC, dI) clx [(qx, .inr (11, fs)), (qc, .inl (cC, 40, .inr (.inr (.inr (.inr (fun _ => none)))))), (q8, .inr (8, f8)), (q9, .inr (3, f3))] H := hP
  have hD : va_D (nw s.heap.size) [(qx, .inr (11, fs)), (qc, .inl (cC, 40, .inr (.inr (.inr (.inr (fun _ => none)))))), (q8, .inr (8, f8)), (q9, .inr (3, f3))] := hD
  have hK : va_K (dC, dI) clx [(cC, .object RX2)] s := hK
  refine lv_astore_n (lv' := [(1, .ref qx), (0, .ref b)]) hx hb dL_law_7 rfl hl (by decide) rfl (fun ls hl => ?_)
  refine va_new (ci := 15) (fs := dfX15) (C := RX15) (T := TX15) (N := 74) hx hb hu iX15 tyX15 tyX15_ok hown (hu _ u861) (hu _ u862) (hu _ u236) hK hP hD hS hA rfl dfX15_ok (Nat.le_of_ble_eq_true rfl) (Nat.le_of_ble_eq_true rfl) dL_law_8 (fun qm H hP hD hS => ?_)
  have hP : va_P (dC, dI) clx [(qx, .inr (11, fs)), (qc, .inl (cC, 40, .inr (.inr (.inr (.inr (fun _ => none)))))), (q8, .inr (8, f8)), (q9, .inr (3, f3)), (qm, .inr (15, dfX15))] H := hP
  have hD : va_D (nw s.heap.size) [(qx, .inr (11, fs)), (qc, .inl (cC, 40, .inr (.inr (.inr (.inr (fun _ => none)))))), (q8, .inr (8, f8)), (q9, .inr (3, f3)), (qm, .inr (15, dfX15))] := hD
  refine lv_dup hx hb dL_law_11 rfl ?_
  have hPc := hP.sub (ws' := [(qm, .inr (15, dfX15))]) [4] rfl
  have hKc := hK.sub (tys' := []) [] rfl
  have hFc := va_free (wc := [(qm, .inr (15, dfX15))]) hD hS hA [4] rfl
  refine va_callv (va_runI (As := []) (rest := [.ref qm]) ⟨hx, hb, hml, hown, hu⟩ (k_X15_init l dC dI qm H.size) (cwI 0 hu (gC u863) rfl rfl rfl (hu _ u236) (hu _ u864) (hu _ u865) rfl (by decide +kernel) ⟨(Nat.le_of_ble_eq_true rfl), (Nat.le_of_ble_eq_true rfl)⟩) (px_initP hKc hev hPc) rfl rfl hl.1 rfl (lv_room (Nat.le_of_ble_eq_true rfl)) dL_law_12 ⟨(Nat.le_of_ble_eq_true rfl), (Nat.le_of_ble_eq_true rfl)⟩) hS (fun q _ h => hFc q h) hFc (fun u t H1 locs ht hvm hw hB hz1 hk1 hS => ?_)
  obtain ⟨ms, q1, q2, q3, q4, q5, q6, y1, y2, y3, y4, y5, y6, hM, hP1, hK1, hD1⟩ := hB
  rw [ht] at hP1
  have hK1 := va_K.moved hvm.symm hK1
  obtain ⟨hP, hD⟩ := va_join (wr := [(qx, .inr (11, fs)), (qc, .inl (cC, 40, .inr (.inr (.inr (.inr (fun _ => none)))))), (q8, .inr (8, f8)), (q9, .inr (3, f3))]) (w1 := [(qm, .inr (15, ms)), (q1, .inl (y1, 40, .inr (.inl (fun _ => 0)))), (q2, .inl (y2, 40, .inr (.inl (fun _ => 0)))), (q3, .inl (y3, 40, .inl (fun _ => 0))), (q4, .inl (y4, 40, .inl (fun _ => 0))), (q5, .inl (y5, 40, .inl (fun _ => 0))), (q6, .inl (y6, 40, .inl (fun _ => 0)))]) hP hD [4] [0, 1, 2, 3] rfl rfl (by decide) (by decide) hk1 hFc hP1 hD1
  have hK := hK.app hK1
  generalize H1 = H at hP hS ⊢
  have hP : va_P (dC, dI) clx [(qx, .inr (11, fs)), (qc, .inl (cC, 40, .inr (.inr (.inr (.inr (fun _ => none)))))), (q8, .inr (8, f8)), (q9, .inr (3, f3)), (qm, .inr (15, ms)), (q1, .inl (y1, 40, .inr (.inl (fun _ => 0)))), (q2, .inl (y2, 40, .inr (.inl (fun _ => 0)))), (q3, .inl (y3, 40, .inl (fun _ => 0))), (q4, .inl (y4, 40, .inl (fun _ => 0))), (q5, .inl (y5, 40, .inl (fun _ => 0))), (q6, .inl (y6, 40, .inl (fun _ => 0)))] H := hP
  have hD : va_D (nw s.heap.size) [(qx, .inr (11, fs)), (qc, .inl (cC, 40, .inr (.inr (.inr (.inr (fun _ => none)))))), (q8, .inr (8, f8)), (q9, .inr (3, f3)), (qm, .inr (15, ms)), (q1, .inl (y1, 40, .inr (.inl (fun _ => 0)))), (q2, .inl (y2, 40, .inr (.inl (fun _ => 0)))), (q3, .inl (y3, 40, .inl (fun _ => 0))), (q4, .inl (y4, 40, .inl (fun _ => 0))), (q5, .inl (y5, 40, .inl (fun _ => 0))), (q6, .inl (y6, 40, .inl (fun _ => 0)))] := hD
  have hK : va_K (dC, dI) clx [(cC, .object RX2), (y1, .long), (y2, .long), (y3, .int), (y4, .int), (y5, .boolean), (y6, .boolean)] s := hK
  refine lv_astore_n (lv' := [(2, .ref qm), (1, .ref qx), (0, .ref b)]) hx hb dL_law_15 rfl hl (by decide) rfl (fun ls hl => ?_)
  refine lv_iconst (v := 1) hx hb dL_law_16 (by decide) ?_
  refine va_newa (atype := .long) (a0 := (1, .inr (.inl (fun _ => 0)))) (ty := .long) (N' := 1) hx hb (hu _ u19) rfl hK hP hD hS hA (fun _ => rfl) (by decide) (by decide) (by decide) (Nat.le_of_ble_eq_true rfl) (Nat.le_of_ble_eq_true rfl) dL_law_17 (fun qo cO H hK hP hD hS => ?_)
  have hP : va_P (dC, dI) clx [(qx, .inr (11, fs)), (qc, .inl (cC, 40, .inr (.inr (.inr (.inr (fun _ => none)))))), (q8, .inr (8, f8)), (q9, .inr (3, f3)), (qm, .inr (15, ms)), (q1, .inl (y1, 40, .inr (.inl (fun _ => 0)))), (q2, .inl (y2, 40, .inr (.inl (fun _ => 0)))), (q3, .inl (y3, 40, .inl (fun _ => 0))), (q4, .inl (y4, 40, .inl (fun _ => 0))), (q5, .inl (y5, 40, .inl (fun _ => 0))), (q6, .inl (y6, 40, .inl (fun _ => 0))), (qo, .inl (cO, 1, .inr (.inl (fun _ => 0))))] H := hP
  have hD : va_D (nw s.heap.size) [(qx, .inr (11, fs)), (qc, .inl (cC, 40, .inr (.inr (.inr (.inr (fun _ => none)))))), (q8, .inr (8, f8)), (q9, .inr (3, f3)), (qm, .inr (15, ms)), (q1, .inl (y1, 40, .inr (.inl (fun _ => 0)))), (q2, .inl (y2, 40, .inr (.inl (fun _ => 0)))), (q3, .inl (y3, 40, .inl (fun _ => 0))), (q4, .inl (y4, 40, .inl (fun _ => 0))), (q5, .inl (y5, 40, .inl (fun _ => 0))), (q6, .inl (y6, 40, .inl (fun _ => 0))), (qo, .inl (cO, 1, .inr (.inl (fun _ => 0))))] := hD
  have hK : va_K (dC, dI) clx [(cC, .object RX2), (y1, .long), (y2, .long), (y3, .int), (y4, .int), (y5, .boolean), (y6, .boolean), (cO, .long)] s := hK
  refine lv_astore_n (lv' := [(3, .ref qo), (2, .ref qm), (1, .ref qx), (0, .ref b)]) hx hb dL_law_19 rfl hl (by decide) rfl (fun ls hl => ?_)
  refine lv_iconst (v := 0) hx hb dL_law_20 (by decide) ?_
  refine lv_istore (lv' := [(4, .int 0), (3, .ref qo), (2, .ref qm), (1, .ref qx), (0, .ref b)]) hx hb dL_law_21 hl (by decide) rfl (fun ls hl => ?_)
  refine W.widen (k := 340) (n := 146681) (Nat.le_of_ble_eq_true rfl) (Nat.le_of_ble_eq_true rfl) ?_
  rcases (show L = 4 ∨ L < 4 by omega) with rfl | h4
  · exact law_go l hst C0 hev hdv hZ hO hM hK hP hD hS hl
  · exact law_exit l C0 (i := 0) (by rcases (show L = 0 ∨ L = 1 ∨ L = 2 ∨ L = 3 by omega) with rfl | rfl | rfl | rfl <;> decide) (Nat.le_of_ble_eq_true rfl) (Nat.le_of_ble_eq_true rfl) hS (lv_sub hl [0, 4] rfl)
