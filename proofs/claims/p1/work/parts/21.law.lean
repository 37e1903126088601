theorem in_0 : vp_in (0 : Int32) 4 := by unfold vp_in; decide
theorem in_1 : vp_in ((0 : Int32) + 1) 4 := by unfold vp_in; decide
theorem in_2 : vp_in ((0 : Int32) + 2) 4 := by unfold vp_in; decide
theorem in_3 : vp_in ((0 : Int32) + 3) 4 := by unfold vp_in; decide
theorem va_D9 {A : Nat → Prop} (q : Nat) (z : va_E) (h : A q) : va_D A [(q, z)] := by
  refine ⟨fun i j x y hi hj _ => ?_, fun k x hx => ?_⟩
  · have h1 : i < 1 := (List.getElem?_eq_some_iff.mp hi).1
    have h2 : j < 1 := (List.getElem?_eq_some_iff.mp hj).1
    omega
  · have h1 : k < 1 := (List.getElem?_eq_some_iff.mp hx).1
    rw [show k = 0 by omega] at hx
    cases hx
    exact h
set_option maxHeartbeats 4000000 in
theorem law_exit {p : Program} {e : Env} {s : State} {m : MethodId} {below : List Frame} {meth : Method} {c : Code} (l : Launch) {b L : Nat} {xs : Nat → Int32} (C0 : lw_At p s m meth c b L xs) {i : Int32} (hi : Int32.ofNat L - 4 < i) {cc ss : Nat} (hcc : cc ≤ 600002) (hss : ss ≤ 7302232) {H : Heap} {locs : List Loc} (hS : va_S (nw s.heap.size) s.heap H locs) {ls : Array Slot} (hl : lv_has ls 8 [(4, .int i), (0, .ref b)]) : W p l e room_1 s m #[Value.ref b] below meth c H locs cc ss (lw_Z below #[Value.ref b] s) (F0 m 23 ls []) := by
  obtain ⟨hx, hb, hr, hml, hown, hts, hX, hbl, hlocks, hgv⟩ := id C0
  have hbA : ¬ nw s.heap.size b := Nat.not_le.mpr hbl
  refine lv_iload hx hb dL_law_23 (lv_at hl 0 rfl) ?_
  refine lv_aload_n hx hb dL_law_25 rfl (lv_at hl 1 rfl) ?_
  refine va_slen hx hb hX hbl hbA hS dL_law_26 ?_
  refine lv_iconst (v := 4) hx hb dL_law_27 (by decide) ?_
  refine lv_isub hx hb dL_law_28 ?_
  refine lv_icmp_gt (tgt := 1839) hx hb dL_law_29 (by decide) (fun _ => ?_) (fun h9 => absurd hi h9)
  refine lv_iconst (v := 1) hx hb dL_law_1839 (by decide) ?_
  refine va_forget (fun q hq => hS.2.2 q hq) ?_
  refine W.widen (k := 600002) (n := 7302232) hcc hss ?_
  exact lw_ret hx hb hr hlocks dL_law_1840
theorem law_next {p : Program} {e : Env} {s : State} {m : MethodId} {below : List Frame} {meth : Method} {c : Code} (l : Launch) {b : Nat} {xs : Nat → Int32} (C0 : lw_At p s m meth c b 4 xs) {cc ss : Nat} (hcc : cc ≤ 600002) (hss : ss ≤ 7302232) {H : Heap} {locs : List Loc} (hS : va_S (nw s.heap.size) s.heap H locs) {ls : Array Slot} (hl : lv_has ls 8 [(4, .int 0), (0, .ref b)]) : W p l e room_1 s m #[Value.ref b] below meth c H locs cc ss (lw_Z below #[Value.ref b] s) (F0 m 1833 ls []) := by
  obtain ⟨hx, hb, hr, hml, hown, hts, hX, hbl, hlocks, hgv⟩ := id C0
  refine lv_iinc (v := 4) (lv' := [(4, .int 4), (0, .ref b)]) hx hb dL_law_1833 hl (k := 0) rfl (by decide) (by decide) rfl (fun ls hl => ?_)
  refine lv_goto (tgt := 23) hx hb dL_law_1836 (by decide) ?_
  exact law_exit l C0 (i := 4) (by decide) hcc hss hS hl
set_option maxHeartbeats 4000000 in
set_option maxRecDepth 100000 in
theorem law_rest {p : Program} {e : Env} {s : State} {m : MethodId} {below : List Frame} {meth : Method} {c : Code} (l : Launch) (hst : l.stackTraces = false) {b : Nat} {xs : Nat → Int32} (C0 : lw_At p s m meth c b 4 xs) (hev : ev s) (hdv : dv s) (hZ : zz s.heap.size s s.heap) {dC : Nat → ClassId} {dI : Nat → Nat → Nat} {qx qm qo : Nat} {fs ms : List Value} {H : Heap} (hf : xF fs) (hm : mF ms) (hK : va_K (dC, dI) clx [] s) (hPx : va_P (dC, dI) clx [(qx, .inr (11, fs))] H) (hPm : va_P (dC, dI) clx [(qm, .inr (15, ms))] H) (hDm : va_D (nw s.heap.size) [(qm, .inr (15, ms))]) {locs : List Loc} (hS : va_S (nw s.heap.size) s.heap H locs) {ls : Array Slot} (hl : lv_has ls 8 [(4, .int 0), (3, .ref qo), (2, .ref qm), (1, .ref qx), (0, .ref b)]) : W p l e room_1 s m #[Value.ref b] below meth c H locs 340 146681 (lw_Z below #[Value.ref b] s) (F0 m 232 ls []) := by
  obtain ⟨hx, hb, hr, hml, hown, hts, hX, hbl, hlocks, hgv⟩ := id C0
  have hu : ∀ w ∈ wU, w.before #[Value.ref b] s = true := fun w h => hts w (wU_sub h)
  have hown : s.vm.findClass RL = some m.cls := hown
  have hA : ∀ q : Nat, s.heap.size ≤ q → nw s.heap.size q := fun _ h => h
  have hbA : ¬ nw s.heap.size b := Nat.not_le.mpr hbl
  refine lv_aload_n hx hb dL_law_232 rfl (lv_at hl 3 rfl) ?_
  refine lv_aload_n hx hb dL_law_233 rfl (lv_at hl 4 rfl) ?_
  refine lv_iload hx hb dL_law_234 (lv_at hl 0 rfl) ?_
  refine lv_iconst (v := 1) hx hb dL_law_236 (by decide) ?_
  refine lv_iadd hx hb dL_law_237 ?_
  refine va_sld hx hb hX hbl hbA hS in_1 dL_law_238 ?_
  refine lv_aload_n hx hb dL_law_239 rfl (lv_at hl 4 rfl) ?_
  refine lv_iload hx hb dL_law_240 (lv_at hl 0 rfl) ?_
  refine lv_iconst (v := 2) hx hb dL_law_242 (by decide) ?_
  refine lv_iadd hx hb dL_law_243 ?_
  refine va_sld hx hb hX hbl hbA hS in_2 dL_law_244 ?_
  refine lv_aload_n hx hb dL_law_245 rfl (lv_at hl 1 rfl) ?_
  refine va_calli (vx_runSW (As := [.ref qx, .int (xs ((0 : Int32) + 1).toNatClampNeg), .int (xs ((0 : Int32) + 2).toNatClampNeg), .ref qo]) (rest := []) ⟨hx, hb, hml, hown, hu⟩ (w_L_rest l hst dC dI qx _ qo fs (xs ((0 : Int32) + 1).toNatClampNeg) (xs ((0 : Int32) + 2).toNatClampNeg) hf) (vx_cwSW 4 hu (gS u651 u652 u653 u654) rfl rfl rfl (by decide +kernel) ⟨(Nat.le_of_ble_eq_true rfl), (Nat.le_of_ble_eq_true rfl)⟩) ⟨tQ_blind, tQ_at hPx hK hev hdv (hZ.grown hS.1 hS.2.1)⟩ rfl rfl hl.1 rfl (lv_room (Nat.le_of_ble_eq_true rfl)) dL_law_246 ⟨(Nat.le_of_ble_eq_true rfl), (Nat.le_of_ble_eq_true rfl)⟩) hS (fun q hq h => absurd h (Nat.not_le.mpr hq)) (fun q h => Nat.le_trans hS.1 h) (fun r1 u9 t H locs ht hvm hw hB hz1 hk1 hS => ?_)
  have hw : r1 = 1 := hw
  subst hw
  have hPm := px_kept hPm (fun a ha => hk1 a ha (Nat.not_le.mpr ha))
  refine W.widen (k := 341) (n := 146687) (Nat.le_of_ble_eq_true rfl) (Nat.le_of_ble_eq_true rfl) ?_
  refine lv_istore (lv' := [(5, .int 1), (4, .int 0), (3, .ref qo), (2, .ref qm), (1, .ref qx), (0, .ref b)]) hx hb dL_law_249 hl (by decide) rfl (fun ls hl => ?_)
  refine lv_aload_n hx hb dL_law_251 rfl (lv_at hl 3 rfl) ?_
  refine lv_aload_n hx hb dL_law_252 rfl (lv_at hl 5 rfl) ?_
  refine lv_iload hx hb dL_law_253 (lv_at hl 1 rfl) ?_
  refine lv_iconst (v := 1) hx hb dL_law_255 (by decide) ?_
  refine lv_iadd hx hb dL_law_256 ?_
  refine va_sld hx hb hX hbl hbA hS in_1 dL_law_257 ?_
  refine lv_aload_n hx hb dL_law_258 rfl (lv_at hl 5 rfl) ?_
  refine lv_iload hx hb dL_law_259 (lv_at hl 1 rfl) ?_
  refine lv_iconst (v := 2) hx hb dL_law_261 (by decide) ?_
  refine lv_iadd hx hb dL_law_262 ?_
  refine va_sld hx hb hX hbl hbA hS in_2 dL_law_263 ?_
  have hFc := va_free (wc := [(qm, .inr (15, ms))]) hDm hS hA [0] rfl
  refine va_calli (va_runV (As := [.int (xs ((0 : Int32) + 1).toNatClampNeg), .int (xs ((0 : Int32) + 2).toNatClampNeg)]) (rest := []) ⟨hx, hb, hml, hown, hu⟩ (m_X15_rest l dC dI qm _ ms (xs ((0 : Int32) + 1).toNatClampNeg) (xs ((0 : Int32) + 2).toNatClampNeg) hm) (cwV 2 hu (gV u655 u656 u657 u236 u658) rfl rfl rfl (by decide +kernel) ⟨(Nat.le_of_ble_eq_true rfl), (Nat.le_of_ble_eq_true rfl)⟩) ⟨mP_blind, va_recv hK hPm (ci := 15) (q0 := 0) rfl rfl, mP_at hPm hK hDm⟩ rfl rfl hl.1 rfl (lv_room (Nat.le_of_ble_eq_true rfl)) dL_law_264 ⟨(Nat.le_of_ble_eq_true rfl), (Nat.le_of_ble_eq_true rfl)⟩) hS (fun q _ h => hFc q h) hFc (fun r2 u9 t H locs ht hvm hw hB hz1 hk1 hS => ?_)
  have hw : r2 = 0 := hw
  subst hw
  have hPm : va_P (dC, dI) clx [(qm, .inr (15, (ms.set 0 (.int 1))))] t.heap := hB
  rw [ht] at hPm
  have hDm : va_D (nw s.heap.size) [(qm, .inr (15, (ms.set 0 (.int 1))))] := hDm.set (p := 0) rfl
  refine lv_istore (lv' := [(6, .int 0), (5, .int 1), (4, .int 0), (3, .ref qo), (2, .ref qm), (1, .ref qx), (0, .ref b)]) hx hb dL_law_267 hl (by decide) rfl (fun ls hl => ?_)
  refine lv_aload_n hx hb dL_law_269 rfl (lv_at hl 4 rfl) ?_
  refine va_calli (va_runV (As := []) (rest := []) ⟨hx, hb, hml, hown, hu⟩ (r_X15_thrown l dC dI qm _ (ms.set 0 (.int 1)) 1 (List.getElem?_set_self (by rw [hm.2.2.2.2.2]; decide))) (cwV 0 hu (gV u659 u660 u661 u236 u662) rfl rfl rfl (by decide +kernel) ⟨(Nat.le_of_ble_eq_true rfl), (Nat.le_of_ble_eq_true rfl)⟩) ⟨mP_blind, va_recv hK hPm (ci := 15) (q0 := 0) rfl rfl, mP_at hPm hK hDm⟩ rfl rfl hl.1 rfl (lv_room (Nat.le_of_ble_eq_true rfl)) dL_law_270 ⟨(Nat.le_of_ble_eq_true rfl), (Nat.le_of_ble_eq_true rfl)⟩) hS (fun q hq h => absurd h (Nat.not_le.mpr hq)) (fun q h => Nat.le_trans hS.1 h) (fun r3 u9 t H locs ht hvm hw hB hz1 hk1 hS => ?_)
  have hw : r3 = 1 := hw
  subst hw
  refine lv_iload hx hb dL_law_273 (lv_at hl 1 rfl) ?_
  refine lv_icmp_eq (tgt := 280) hx hb dL_law_275 (by decide) (fun _ => ?_) (fun h9 => absurd (by decide) h9)
  refine lv_iload hx hb dL_law_280 (lv_at hl 1 rfl) ?_
  refine lv_if_ne (tgt := 297) hx hb dL_law_282 (by decide) (fun _ => ?_) (fun h9 => absurd h9 (by decide))
  refine lv_goto (tgt := 1833) hx hb dL_law_297 (by decide) ?_
  exact law_next l C0 (Nat.le_of_ble_eq_true rfl) (Nat.le_of_ble_eq_true rfl) hS (lv_sub hl [2, 6] rfl)
set_option maxHeartbeats 4000000 in
set_option maxRecDepth 100000 in
theorem law_turned {p : Program} {e : Env} {s : State} {m : MethodId} {below : List Frame} {meth : Method} {c : Code} (l : Launch) (hst : l.stackTraces = false) {b : Nat} {xs : Nat → Int32} (C0 : lw_At p s m meth c b 4 xs) (hev : ev s) (hdv : dv s) (hZ : zz s.heap.size s s.heap) {dC : Nat → ClassId} {dI : Nat → Nat → Nat} {qx qm qo : Nat} {fs ms : List Value} {H : Heap} (hf : xF fs) (hm : mF ms) (hK : va_K (dC, dI) clx [] s) (hPx : va_P (dC, dI) clx [(qx, .inr (11, fs))] H) (hPm : va_P (dC, dI) clx [(qm, .inr (15, ms))] H) (hDm : va_D (nw s.heap.size) [(qm, .inr (15, ms))]) {locs : List Loc} (hS : va_S (nw s.heap.size) s.heap H locs) {ls : Array Slot} (hl : lv_has ls 8 [(4, .int 0), (3, .ref qo), (2, .ref qm), (1, .ref qx), (0, .ref b)]) : W p l e room_1 s m #[Value.ref b] below meth c H locs 340 146681 (lw_Z below #[Value.ref b] s) (F0 m 300 ls []) := by
  obtain ⟨hx, hb, hr, hml, hown, hts, hX, hbl, hlocks, hgv⟩ := id C0
  have hu : ∀ w ∈ wU, w.before #[Value.ref b] s = true := fun w h => hts w (wU_sub h)
  have hown : s.vm.findClass RL = some m.cls := hown
  have hA : ∀ q : Nat, s.heap.size ≤ q → nw s.heap.size q := fun _ h => h
  have hbA : ¬ nw s.heap.size b := Nat.not_le.mpr hbl
  refine lv_aload_n hx hb dL_law_300 rfl (lv_at hl 3 rfl) ?_
  refine lv_aload_n hx hb dL_law_301 rfl (lv_at hl 4 rfl) ?_
  refine lv_iload hx hb dL_law_302 (lv_at hl 0 rfl) ?_
  refine lv_iconst (v := 1) hx hb dL_law_304 (by decide) ?_
  refine lv_iadd hx hb dL_law_305 ?_
  refine va_sld hx hb hX hbl hbA hS in_1 dL_law_306 ?_
  refine lv_aload_n hx hb dL_law_307 rfl (lv_at hl 1 rfl) ?_
  refine va_calli (vx_runSW (As := [.ref qx, .int (xs ((0 : Int32) + 1).toNatClampNeg), .ref qo]) (rest := []) ⟨hx, hb, hml, hown, hu⟩ (w_L_turned l hst dC dI qx _ qo fs (xs ((0 : Int32) + 1).toNatClampNeg) hf) (vx_cwSW 3 hu (gS u663 u664 u653 u665) rfl rfl rfl (by decide +kernel) ⟨(Nat.le_of_ble_eq_true rfl), (Nat.le_of_ble_eq_true rfl)⟩) ⟨tQ_blind, tQ_at hPx hK hev hdv (hZ.grown hS.1 hS.2.1)⟩ rfl rfl hl.1 rfl (lv_room (Nat.le_of_ble_eq_true rfl)) dL_law_308 ⟨(Nat.le_of_ble_eq_true rfl), (Nat.le_of_ble_eq_true rfl)⟩) hS (fun q hq h => absurd h (Nat.not_le.mpr hq)) (fun q h => Nat.le_trans hS.1 h) (fun r1 u9 t H locs ht hvm hw hB hz1 hk1 hS => ?_)
  have hw : r1 = 1 := hw
  subst hw
  have hPm := px_kept hPm (fun a ha => hk1 a ha (Nat.not_le.mpr ha))
  refine W.widen (k := 341) (n := 146687) (Nat.le_of_ble_eq_true rfl) (Nat.le_of_ble_eq_true rfl) ?_
  refine lv_istore (lv' := [(5, .int 1), (4, .int 0), (3, .ref qo), (2, .ref qm), (1, .ref qx), (0, .ref b)]) hx hb dL_law_311 hl (by decide) rfl (fun ls hl => ?_)
  refine lv_aload_n hx hb dL_law_313 rfl (lv_at hl 3 rfl) ?_
  refine lv_aload_n hx hb dL_law_314 rfl (lv_at hl 5 rfl) ?_
  refine lv_iload hx hb dL_law_315 (lv_at hl 1 rfl) ?_
  refine lv_iconst (v := 1) hx hb dL_law_317 (by decide) ?_
  refine lv_iadd hx hb dL_law_318 ?_
  refine va_sld hx hb hX hbl hbA hS in_1 dL_law_319 ?_
  have hFc := va_free (wc := [(qm, .inr (15, ms))]) hDm hS hA [0] rfl
  refine va_calli (va_runV (As := [.int (xs ((0 : Int32) + 1).toNatClampNeg)]) (rest := []) ⟨hx, hb, hml, hown, hu⟩ (m_X15_turned l dC dI qm _ ms (xs ((0 : Int32) + 1).toNatClampNeg) hm) (cwV 1 hu (gV u666 u667 u668 u236 u669) rfl rfl rfl (by decide +kernel) ⟨(Nat.le_of_ble_eq_true rfl), (Nat.le_of_ble_eq_true rfl)⟩) ⟨mP_blind, va_recv hK hPm (ci := 15) (q0 := 0) rfl rfl, mP_at hPm hK hDm⟩ rfl rfl hl.1 rfl (lv_room (Nat.le_of_ble_eq_true rfl)) dL_law_320 ⟨(Nat.le_of_ble_eq_true rfl), (Nat.le_of_ble_eq_true rfl)⟩) hS (fun q _ h => hFc q h) hFc (fun r2 u9 t H locs ht hvm hw hB hz1 hk1 hS => ?_)
  have hw : r2 = 0 := hw
  subst hw
  have hPm : va_P (dC, dI) clx [(qm, .inr (15, (ms.set 0 (.int 1))))] t.heap := hB
  rw [ht] at hPm
  have hDm : va_D (nw s.heap.size) [(qm, .inr (15, (ms.set 0 (.int 1))))] := hDm.set (p := 0) rfl
  refine lv_istore (lv' := [(6, .int 0), (5, .int 1), (4, .int 0), (3, .ref qo), (2, .ref qm), (1, .ref qx), (0, .ref b)]) hx hb dL_law_323 hl (by decide) rfl (fun ls hl => ?_)
  refine lv_aload_n hx hb dL_law_325 rfl (lv_at hl 4 rfl) ?_
  refine va_calli (va_runV (As := []) (rest := []) ⟨hx, hb, hml, hown, hu⟩ (r_X15_thrown l dC dI qm _ (ms.set 0 (.int 1)) 1 (List.getElem?_set_self (by rw [hm.2.2.2.2.2]; decide))) (cwV 0 hu (gV u659 u660 u661 u236 u662) rfl rfl rfl (by decide +kernel) ⟨(Nat.le_of_ble_eq_true rfl), (Nat.le_of_ble_eq_true rfl)⟩) ⟨mP_blind, va_recv hK hPm (ci := 15) (q0 := 0) rfl rfl, mP_at hPm hK hDm⟩ rfl rfl hl.1 rfl (lv_room (Nat.le_of_ble_eq_true rfl)) dL_law_326 ⟨(Nat.le_of_ble_eq_true rfl), (Nat.le_of_ble_eq_true rfl)⟩) hS (fun q hq h => absurd h (Nat.not_le.mpr hq)) (fun q h => Nat.le_trans hS.1 h) (fun r3 u9 t H locs ht hvm hw hB hz1 hk1 hS => ?_)
  have hw : r3 = 1 := hw
  subst hw
  refine lv_iload hx hb dL_law_329 (lv_at hl 1 rfl) ?_
  refine lv_icmp_eq (tgt := 336) hx hb dL_law_331 (by decide) (fun _ => ?_) (fun h9 => absurd (by decide) h9)
  refine lv_iload hx hb dL_law_336 (lv_at hl 1 rfl) ?_
  refine lv_if_ne (tgt := 353) hx hb dL_law_338 (by decide) (fun _ => ?_) (fun h9 => absurd h9 (by decide))
  refine lv_goto (tgt := 1833) hx hb dL_law_353 (by decide) ?_
  exact law_next l C0 (Nat.le_of_ble_eq_true rfl) (Nat.le_of_ble_eq_true rfl) hS (lv_sub hl [2, 6] rfl)
set_option maxHeartbeats 4000000 in
set_option maxRecDepth 100000 in
theorem law_about {p : Program} {e : Env} {s : State} {m : MethodId} {below : List Frame} {meth : Method} {c : Code} (l : Launch) (hst : l.stackTraces = false) {b : Nat} {xs : Nat → Int32} (C0 : lw_At p s m meth c b 4 xs) (hev : ev s) (hdv : dv s) (hZ : zz s.heap.size s s.heap) {dC : Nat → ClassId} {dI : Nat → Nat → Nat} {qx qm qo : Nat} {fs ms : List Value} {H : Heap} (hf : xF fs) (hm : mF ms) (hK : va_K (dC, dI) clx [] s) (hPx : va_P (dC, dI) clx [(qx, .inr (11, fs))] H) (hPm : va_P (dC, dI) clx [(qm, .inr (15, ms))] H) (hDm : va_D (nw s.heap.size) [(qm, .inr (15, ms))]) {locs : List Loc} (hS : va_S (nw s.heap.size) s.heap H locs) {ls : Array Slot} (hl : lv_has ls 8 [(4, .int 0), (3, .ref qo), (2, .ref qm), (1, .ref qx), (0, .ref b)]) : W p l e room_1 s m #[Value.ref b] below meth c H locs 340 146681 (lw_Z below #[Value.ref b] s) (F0 m 356 ls []) := by
  obtain ⟨hx, hb, hr, hml, hown, hts, hX, hbl, hlocks, hgv⟩ := id C0
  have hu : ∀ w ∈ wU, w.before #[Value.ref b] s = true := fun w h => hts w (wU_sub h)
  have hown : s.vm.findClass RL = some m.cls := hown
  have hA : ∀ q : Nat, s.heap.size ≤ q → nw s.heap.size q := fun _ h => h
  have hbA : ¬ nw s.heap.size b := Nat.not_le.mpr hbl
  refine lv_aload_n hx hb dL_law_356 rfl (lv_at hl 3 rfl) ?_
  refine lv_aload_n hx hb dL_law_357 rfl (lv_at hl 4 rfl) ?_
  refine lv_iload hx hb dL_law_358 (lv_at hl 0 rfl) ?_
  refine lv_iconst (v := 1) hx hb dL_law_360 (by decide) ?_
  refine lv_iadd hx hb dL_law_361 ?_
  refine va_sld hx hb hX hbl hbA hS in_1 dL_law_362 ?_
  refine lv_aload_n hx hb dL_law_363 rfl (lv_at hl 4 rfl) ?_
  refine lv_iload hx hb dL_law_364 (lv_at hl 0 rfl) ?_
  refine lv_iconst (v := 2) hx hb dL_law_366 (by decide) ?_
  refine lv_iadd hx hb dL_law_367 ?_
  refine va_sld hx hb hX hbl hbA hS in_2 dL_law_368 ?_
  refine lv_aload_n hx hb dL_law_369 rfl (lv_at hl 1 rfl) ?_
  refine va_calli (vx_runSW (As := [.ref qx, .int (xs ((0 : Int32) + 1).toNatClampNeg), .int (xs ((0 : Int32) + 2).toNatClampNeg), .ref qo]) (rest := []) ⟨hx, hb, hml, hown, hu⟩ (w_L_about l hst dC dI qx _ qo fs (xs ((0 : Int32) + 1).toNatClampNeg) (xs ((0 : Int32) + 2).toNatClampNeg) hf) (vx_cwSW 4 hu (gS u670 u671 u653 u672) rfl rfl rfl (by decide +kernel) ⟨(Nat.le_of_ble_eq_true rfl), (Nat.le_of_ble_eq_true rfl)⟩) ⟨tQ_blind, tQ_at hPx hK hev hdv (hZ.grown hS.1 hS.2.1)⟩ rfl rfl hl.1 rfl (lv_room (Nat.le_of_ble_eq_true rfl)) dL_law_370 ⟨(Nat.le_of_ble_eq_true rfl), (Nat.le_of_ble_eq_true rfl)⟩) hS (fun q hq h => absurd h (Nat.not_le.mpr hq)) (fun q h => Nat.le_trans hS.1 h) (fun r1 u9 t H locs ht hvm hw hB hz1 hk1 hS => ?_)
  have hw : r1 = 1 := hw
  subst hw
  have hPm := px_kept hPm (fun a ha => hk1 a ha (Nat.not_le.mpr ha))
  refine W.widen (k := 341) (n := 146687) (Nat.le_of_ble_eq_true rfl) (Nat.le_of_ble_eq_true rfl) ?_
  refine lv_istore (lv' := [(5, .int 1), (4, .int 0), (3, .ref qo), (2, .ref qm), (1, .ref qx), (0, .ref b)]) hx hb dL_law_373 hl (by decide) rfl (fun ls hl => ?_)
  refine lv_aload_n hx hb dL_law_375 rfl (lv_at hl 3 rfl) ?_
  refine lv_aload_n hx hb dL_law_376 rfl (lv_at hl 5 rfl) ?_
  refine lv_iload hx hb dL_law_377 (lv_at hl 1 rfl) ?_
  refine lv_iconst (v := 1) hx hb dL_law_379 (by decide) ?_
  refine lv_iadd hx hb dL_law_380 ?_
  refine va_sld hx hb hX hbl hbA hS in_1 dL_law_381 ?_
  refine lv_aload_n hx hb dL_law_382 rfl (lv_at hl 5 rfl) ?_
  refine lv_iload hx hb dL_law_383 (lv_at hl 1 rfl) ?_
  refine lv_iconst (v := 2) hx hb dL_law_385 (by decide) ?_
  refine lv_iadd hx hb dL_law_386 ?_
  refine va_sld hx hb hX hbl hbA hS in_2 dL_law_387 ?_
  have hFc := va_free (wc := [(qm, .inr (15, ms))]) hDm hS hA [0] rfl
  refine va_calll (va_runV (As := [.int (xs ((0 : Int32) + 1).toNatClampNeg), .int (xs ((0 : Int32) + 2).toNatClampNeg)]) (rest := []) ⟨hx, hb, hml, hown, hu⟩ (m_X15_about l dC dI qm _ ms (xs ((0 : Int32) + 1).toNatClampNeg) (xs ((0 : Int32) + 2).toNatClampNeg) hm) (cwV 2 hu (gV u673 u674 u675 u236 u676) rfl rfl rfl (by decide +kernel) ⟨(Nat.le_of_ble_eq_true rfl), (Nat.le_of_ble_eq_true rfl)⟩) ⟨mP_blind, va_recv hK hPm (ci := 15) (q0 := 0) rfl rfl, mP_at hPm hK hDm⟩ rfl rfl hl.1 rfl (lv_room (Nat.le_of_ble_eq_true rfl)) dL_law_388 ⟨(Nat.le_of_ble_eq_true rfl), (Nat.le_of_ble_eq_true rfl)⟩) hS (fun q _ h => hFc q h) hFc (fun r2 u9 t H locs ht hvm hw hB hz1 hk1 hS => ?_)
  have hw : r2 = 0 := hw
  subst hw
  have hPm : va_P (dC, dI) clx [(qm, .inr (15, (ms.set 0 (.int 1))))] t.heap := hB
  rw [ht] at hPm
  have hDm : va_D (nw s.heap.size) [(qm, .inr (15, (ms.set 0 (.int 1))))] := hDm.set (p := 0) rfl
  refine lv_lstore (lv' := [(6, .long 0), (5, .int 1), (4, .int 0), (3, .ref qo), (2, .ref qm), (1, .ref qx), (0, .ref b)]) hx hb dL_law_391 hl (by decide) rfl (fun ls hl => ?_)
  refine lv_aload_n hx hb dL_law_393 rfl (lv_at hl 4 rfl) ?_
  refine va_calli (va_runV (As := []) (rest := []) ⟨hx, hb, hml, hown, hu⟩ (r_X15_thrown l dC dI qm _ (ms.set 0 (.int 1)) 1 (List.getElem?_set_self (by rw [hm.2.2.2.2.2]; decide))) (cwV 0 hu (gV u659 u660 u661 u236 u662) rfl rfl rfl (by decide +kernel) ⟨(Nat.le_of_ble_eq_true rfl), (Nat.le_of_ble_eq_true rfl)⟩) ⟨mP_blind, va_recv hK hPm (ci := 15) (q0 := 0) rfl rfl, mP_at hPm hK hDm⟩ rfl rfl hl.1 rfl (lv_room (Nat.le_of_ble_eq_true rfl)) dL_law_394 ⟨(Nat.le_of_ble_eq_true rfl), (Nat.le_of_ble_eq_true rfl)⟩) hS (fun q hq h => absurd h (Nat.not_le.mpr hq)) (fun q h => Nat.le_trans hS.1 h) (fun r3 u9 t H locs ht hvm hw hB hz1 hk1 hS => ?_)
  have hw : r3 = 1 := hw
  subst hw
  refine lv_iload hx hb dL_law_397 (lv_at hl 1 rfl) ?_
  refine lv_icmp_eq (tgt := 404) hx hb dL_law_399 (by decide) (fun _ => ?_) (fun h9 => absurd (by decide) h9)
  refine lv_iload hx hb dL_law_404 (lv_at hl 1 rfl) ?_
  refine lv_if_ne (tgt := 420) hx hb dL_law_406 (by decide) (fun _ => ?_) (fun h9 => absurd h9 (by decide))
  refine lv_goto (tgt := 1833) hx hb dL_law_420 (by decide) ?_
  exact law_next l C0 (Nat.le_of_ble_eq_true rfl) (Nat.le_of_ble_eq_true rfl) hS (lv_sub hl [2, 6] rfl)
set_option maxHeartbeats 4000000 in
set_option maxRecDepth 100000 in
theorem law_far {p : Program} {e : Env} {s : State} {m : MethodId} {below : List Frame} {meth : Method} {c : Code} (l : Launch) (hst : l.stackTraces = false) {b : Nat} {xs : Nat → Int32} (C0 : lw_At p s m meth c b 4 xs) (hev : ev s) (hdv : dv s) (hZ : zz s.heap.size s s.heap) {dC : Nat → ClassId} {dI : Nat → Nat → Nat} {qx qm qo : Nat} {fs ms : List Value} {H : Heap} (hf : xF fs) (hm : mF ms) (hK : va_K (dC, dI) clx [] s) (hPx : va_P (dC, dI) clx [(qx, .inr (11, fs))] H) (hPm : va_P (dC, dI) clx [(qm, .inr (15, ms))] H) (hDm : va_D (nw s.heap.size) [(qm, .inr (15, ms))]) {locs : List Loc} (hS : va_S (nw s.heap.size) s.heap H locs) {ls : Array Slot} (hl : lv_has ls 8 [(4, .int 0), (3, .ref qo), (2, .ref qm), (1, .ref qx), (0, .ref b)]) : W p l e room_1 s m #[Value.ref b] below meth c H locs 340 146681 (lw_Z below #[Value.ref b] s) (F0 m 423 ls []) := by
  obtain ⟨hx, hb, hr, hml, hown, hts, hX, hbl, hlocks, hgv⟩ := id C0
  have hu : ∀ w ∈ wU, w.before #[Value.ref b] s = true := fun w h => hts w (wU_sub h)
  have hown : s.vm.findClass RL = some m.cls := hown
  have hA : ∀ q : Nat, s.heap.size ≤ q → nw s.heap.size q := fun _ h => h
  have hbA : ¬ nw s.heap.size b := Nat.not_le.mpr hbl
  refine lv_aload_n hx hb dL_law_423 rfl (lv_at hl 3 rfl) ?_
  refine lv_aload_n hx hb dL_law_424 rfl (lv_at hl 4 rfl) ?_
  refine lv_iload hx hb dL_law_425 (lv_at hl 0 rfl) ?_
  refine lv_iconst (v := 1) hx hb dL_law_427 (by decide) ?_
  refine lv_iadd hx hb dL_law_428 ?_
  refine va_sld hx hb hX hbl hbA hS in_1 dL_law_429 ?_
  refine lv_aload_n hx hb dL_law_430 rfl (lv_at hl 1 rfl) ?_
  refine va_calli (vx_runSW (As := [.ref qx, .int (xs ((0 : Int32) + 1).toNatClampNeg), .ref qo]) (rest := []) ⟨hx, hb, hml, hown, hu⟩ (w_L_far l hst dC dI qx _ qo fs (xs ((0 : Int32) + 1).toNatClampNeg) hf) (vx_cwSW 3 hu (gS u677 u678 u653 u679) rfl rfl rfl (by decide +kernel) ⟨(Nat.le_of_ble_eq_true rfl), (Nat.le_of_ble_eq_true rfl)⟩) ⟨tQ_blind, tQ_at hPx hK hev hdv (hZ.grown hS.1 hS.2.1)⟩ rfl rfl hl.1 rfl (lv_room (Nat.le_of_ble_eq_true rfl)) dL_law_431 ⟨(Nat.le_of_ble_eq_true rfl), (Nat.le_of_ble_eq_true rfl)⟩) hS (fun q hq h => absurd h (Nat.not_le.mpr hq)) (fun q h => Nat.le_trans hS.1 h) (fun r1 u9 t H locs ht hvm hw hB hz1 hk1 hS => ?_)
  have hw : r1 = 1 := hw
  subst hw
  have hPm := px_kept hPm (fun a ha => hk1 a ha (Nat.not_le.mpr ha))
  refine W.widen (k := 341) (n := 146687) (Nat.le_of_ble_eq_true rfl) (Nat.le_of_ble_eq_true rfl) ?_
  refine lv_istore (lv' := [(5, .int 1), (4, .int 0), (3, .ref qo), (2, .ref qm), (1, .ref qx), (0, .ref b)]) hx hb dL_law_434 hl (by decide) rfl (fun ls hl => ?_)
  refine lv_aload_n hx hb dL_law_436 rfl (lv_at hl 3 rfl) ?_
  refine lv_aload_n hx hb dL_law_437 rfl (lv_at hl 5 rfl) ?_
  refine lv_iload hx hb dL_law_438 (lv_at hl 1 rfl) ?_
  refine lv_iconst (v := 1) hx hb dL_law_440 (by decide) ?_
  refine lv_iadd hx hb dL_law_441 ?_
  refine va_sld hx hb hX hbl hbA hS in_1 dL_law_442 ?_
  have hFc := va_free (wc := [(qm, .inr (15, ms))]) hDm hS hA [0] rfl
  refine va_calli (va_runV (As := [.int (xs ((0 : Int32) + 1).toNatClampNeg)]) (rest := []) ⟨hx, hb, hml, hown, hu⟩ (m_X15_far l dC dI qm _ ms (xs ((0 : Int32) + 1).toNatClampNeg) hm) (cwV 1 hu (gV u680 u681 u682 u236 u683) rfl rfl rfl (by decide +kernel) ⟨(Nat.le_of_ble_eq_true rfl), (Nat.le_of_ble_eq_true rfl)⟩) ⟨mP_blind, va_recv hK hPm (ci := 15) (q0 := 0) rfl rfl, mP_at hPm hK hDm⟩ rfl rfl hl.1 rfl (lv_room (Nat.le_of_ble_eq_true rfl)) dL_law_443 ⟨(Nat.le_of_ble_eq_true rfl), (Nat.le_of_ble_eq_true rfl)⟩) hS (fun q _ h => hFc q h) hFc (fun r2 u9 t H locs ht hvm hw hB hz1 hk1 hS => ?_)
  have hw : r2 = 0 := hw
  subst hw
  have hPm : va_P (dC, dI) clx [(qm, .inr (15, (ms.set 0 (.int 1))))] t.heap := hB
  rw [ht] at hPm
  have hDm : va_D (nw s.heap.size) [(qm, .inr (15, (ms.set 0 (.int 1))))] := hDm.set (p := 0) rfl
  refine lv_istore (lv' := [(6, .int 0), (5, .int 1), (4, .int 0), (3, .ref qo), (2, .ref qm), (1, .ref qx), (0, .ref b)]) hx hb dL_law_446 hl (by decide) rfl (fun ls hl => ?_)
  refine lv_aload_n hx hb dL_law_448 rfl (lv_at hl 4 rfl) ?_
  refine va_calli (va_runV (As := []) (rest := []) ⟨hx, hb, hml, hown, hu⟩ (r_X15_thrown l dC dI qm _ (ms.set 0 (.int 1)) 1 (List.getElem?_set_self (by rw [hm.2.2.2.2.2]; decide))) (cwV 0 hu (gV u659 u660 u661 u236 u662) rfl rfl rfl (by decide +kernel) ⟨(Nat.le_of_ble_eq_true rfl), (Nat.le_of_ble_eq_true rfl)⟩) ⟨mP_blind, va_recv hK hPm (ci := 15) (q0 := 0) rfl rfl, mP_at hPm hK hDm⟩ rfl rfl hl.1 rfl (lv_room (Nat.le_of_ble_eq_true rfl)) dL_law_449 ⟨(Nat.le_of_ble_eq_true rfl), (Nat.le_of_ble_eq_true rfl)⟩) hS (fun q hq h => absurd h (Nat.not_le.mpr hq)) (fun q h => Nat.le_trans hS.1 h) (fun r3 u9 t H locs ht hvm hw hB hz1 hk1 hS => ?_)
  have hw : r3 = 1 := hw
  subst hw
  refine lv_iload hx hb dL_law_452 (lv_at hl 1 rfl) ?_
  refine lv_icmp_eq (tgt := 459) hx hb dL_law_454 (by decide) (fun _ => ?_) (fun h9 => absurd (by decide) h9)
  refine lv_iload hx hb dL_law_459 (lv_at hl 1 rfl) ?_
  refine lv_if_ne (tgt := 476) hx hb dL_law_461 (by decide) (fun _ => ?_) (fun h9 => absurd h9 (by decide))
  refine lv_goto (tgt := 1833) hx hb dL_law_476 (by decide) ?_
  exact law_next l C0 (Nat.le_of_ble_eq_true rfl) (Nat.le_of_ble_eq_true rfl) hS (lv_sub hl [2, 6] rfl)
set_option maxHeartbeats 4000000 in
set_option maxRecDepth 100000 in
theorem law_point {p : Program} {e : Env} {s : State} {m : MethodId} {below : List Frame} {meth : Method} {c : Code} (l : Launch) (hst : l.stackTraces = false) {b : Nat} {xs : Nat → Int32} (C0 : lw_At p s m meth c b 4 xs) (hev : ev s) (hdv : dv s) (hZ : zz s.heap.size s s.heap) {dC : Nat → ClassId} {dI : Nat → Nat → Nat} {qx qm qo : Nat} {fs ms : List Value} {H : Heap} (hf : xF fs) (hm : mF ms) (hK : va_K (dC, dI) clx [] s) (hPx : va_P (dC, dI) clx [(qx, .inr (11, fs))] H) (hPm : va_P (dC, dI) clx [(qm, .inr (15, ms))] H) (hDm : va_D (nw s.heap.size) [(qm, .inr (15, ms))]) {locs : List Loc} (hS : va_S (nw s.heap.size) s.heap H locs) {ls : Array Slot} (hl : lv_has ls 8 [(4, .int 0), (3, .ref qo), (2, .ref qm), (1, .ref qx), (0, .ref b)]) : W p l e room_1 s m #[Value.ref b] below meth c H locs 340 146681 (lw_Z below #[Value.ref b] s) (F0 m 479 ls []) := by
  obtain ⟨hx, hb, hr, hml, hown, hts, hX, hbl, hlocks, hgv⟩ := id C0
  have hu : ∀ w ∈ wU, w.before #[Value.ref b] s = true := fun w h => hts w (wU_sub h)
  have hown : s.vm.findClass RL = some m.cls := hown
  have hA : ∀ q : Nat, s.heap.size ≤ q → nw s.heap.size q := fun _ h => h
  have hbA : ¬ nw s.heap.size b := Nat.not_le.mpr hbl
  refine lv_aload_n hx hb dL_law_479 rfl (lv_at hl 3 rfl) ?_
  refine lv_aload_n hx hb dL_law_480 rfl (lv_at hl 4 rfl) ?_
  refine lv_iload hx hb dL_law_481 (lv_at hl 0 rfl) ?_
  refine lv_iconst (v := 1) hx hb dL_law_483 (by decide) ?_
  refine lv_iadd hx hb dL_law_484 ?_
  refine va_sld hx hb hX hbl hbA hS in_1 dL_law_485 ?_
  refine lv_aload_n hx hb dL_law_486 rfl (lv_at hl 4 rfl) ?_
  refine lv_iload hx hb dL_law_487 (lv_at hl 0 rfl) ?_
  refine lv_iconst (v := 2) hx hb dL_law_489 (by decide) ?_
  refine lv_iadd hx hb dL_law_490 ?_
  refine va_sld hx hb hX hbl hbA hS in_2 dL_law_491 ?_
  refine lv_aload_n hx hb dL_law_492 rfl (lv_at hl 4 rfl) ?_
  refine lv_iload hx hb dL_law_493 (lv_at hl 0 rfl) ?_
  refine lv_iconst (v := 3) hx hb dL_law_495 (by decide) ?_
  refine lv_iadd hx hb dL_law_496 ?_
  refine va_sld hx hb hX hbl hbA hS in_3 dL_law_497 ?_
  refine lv_aload_n hx hb dL_law_498 rfl (lv_at hl 1 rfl) ?_
  refine va_calli (vx_runSW (As := [.ref qx, .int (xs ((0 : Int32) + 1).toNatClampNeg), .int (xs ((0 : Int32) + 2).toNatClampNeg), .int (xs ((0 : Int32) + 3).toNatClampNeg), .ref qo]) (rest := []) ⟨hx, hb, hml, hown, hu⟩ (w_L_point l hst dC dI qx _ qo fs (xs ((0 : Int32) + 1).toNatClampNeg) (xs ((0 : Int32) + 2).toNatClampNeg) (xs ((0 : Int32) + 3).toNatClampNeg) hf) (vx_cwSW 5 hu (gS u684 u685 u653 u686) rfl rfl rfl (by decide +kernel) ⟨(Nat.le_of_ble_eq_true rfl), (Nat.le_of_ble_eq_true rfl)⟩) ⟨tQ_blind, tQ_at hPx hK hev hdv (hZ.grown hS.1 hS.2.1)⟩ rfl rfl hl.1 rfl (lv_room (Nat.le_of_ble_eq_true rfl)) dL_law_499 ⟨(Nat.le_of_ble_eq_true rfl), (Nat.le_of_ble_eq_true rfl)⟩) hS (fun q hq h => absurd h (Nat.not_le.mpr hq)) (fun q h => Nat.le_trans hS.1 h) (fun r1 u9 t H locs ht hvm hw hB hz1 hk1 hS => ?_)
  have hw : r1 = 1 := hw
  subst hw
  have hPm := px_kept hPm (fun a ha => hk1 a ha (Nat.not_le.mpr ha))
  refine W.widen (k := 341) (n := 146687) (Nat.le_of_ble_eq_true rfl) (Nat.le_of_ble_eq_true rfl) ?_
  refine lv_istore (lv' := [(5, .int 1), (4, .int 0), (3, .ref qo), (2, .ref qm), (1, .ref qx), (0, .ref b)]) hx hb dL_law_502 hl (by decide) rfl (fun ls hl => ?_)
  refine lv_aload_n hx hb dL_law_504 rfl (lv_at hl 3 rfl) ?_
  refine lv_aload_n hx hb dL_law_505 rfl (lv_at hl 5 rfl) ?_
  refine lv_iload hx hb dL_law_506 (lv_at hl 1 rfl) ?_
  refine lv_iconst (v := 1) hx hb dL_law_508 (by decide) ?_
  refine lv_iadd hx hb dL_law_509 ?_
  refine va_sld hx hb hX hbl hbA hS in_1 dL_law_510 ?_
  refine lv_aload_n hx hb dL_law_511 rfl (lv_at hl 5 rfl) ?_
  refine lv_iload hx hb dL_law_512 (lv_at hl 1 rfl) ?_
  refine lv_iconst (v := 2) hx hb dL_law_514 (by decide) ?_
  refine lv_iadd hx hb dL_law_515 ?_
  refine va_sld hx hb hX hbl hbA hS in_2 dL_law_516 ?_
  refine lv_aload_n hx hb dL_law_517 rfl (lv_at hl 5 rfl) ?_
  refine lv_iload hx hb dL_law_518 (lv_at hl 1 rfl) ?_
  refine lv_iconst (v := 3) hx hb dL_law_520 (by decide) ?_
  refine lv_iadd hx hb dL_law_521 ?_
  refine va_sld hx hb hX hbl hbA hS in_3 dL_law_522 ?_
  have hFc := va_free (wc := [(qm, .inr (15, ms))]) hDm hS hA [0] rfl
  refine va_calli (va_runV (As := [.int (xs ((0 : Int32) + 1).toNatClampNeg), .int (xs ((0 : Int32) + 2).toNatClampNeg), .int (xs ((0 : Int32) + 3).toNatClampNeg)]) (rest := []) ⟨hx, hb, hml, hown, hu⟩ (m_X15_point l dC dI qm _ ms (xs ((0 : Int32) + 1).toNatClampNeg) (xs ((0 : Int32) + 2).toNatClampNeg) (xs ((0 : Int32) + 3).toNatClampNeg) hm) (cwV 3 hu (gV u687 u688 u689 u236 u690) rfl rfl rfl (by decide +kernel) ⟨(Nat.le_of_ble_eq_true rfl), (Nat.le_of_ble_eq_true rfl)⟩) ⟨mP_blind, va_recv hK hPm (ci := 15) (q0 := 0) rfl rfl, mP_at hPm hK hDm⟩ rfl rfl hl.1 rfl (lv_room (Nat.le_of_ble_eq_true rfl)) dL_law_523 ⟨(Nat.le_of_ble_eq_true rfl), (Nat.le_of_ble_eq_true rfl)⟩) hS (fun q _ h => hFc q h) hFc (fun r2 u9 t H locs ht hvm hw hB hz1 hk1 hS => ?_)
  have hw : r2 = 0 := hw
  subst hw
  have hPm : va_P (dC, dI) clx [(qm, .inr (15, (ms.set 0 (.int 1))))] t.heap := hB
  rw [ht] at hPm
  have hDm : va_D (nw s.heap.size) [(qm, .inr (15, (ms.set 0 (.int 1))))] := hDm.set (p := 0) rfl
  refine lv_istore (lv' := [(6, .int 0), (5, .int 1), (4, .int 0), (3, .ref qo), (2, .ref qm), (1, .ref qx), (0, .ref b)]) hx hb dL_law_526 hl (by decide) rfl (fun ls hl => ?_)
  refine lv_aload_n hx hb dL_law_528 rfl (lv_at hl 4 rfl) ?_
  refine va_calli (va_runV (As := []) (rest := []) ⟨hx, hb, hml, hown, hu⟩ (r_X15_thrown l dC dI qm _ (ms.set 0 (.int 1)) 1 (List.getElem?_set_self (by rw [hm.2.2.2.2.2]; decide))) (cwV 0 hu (gV u659 u660 u661 u236 u662) rfl rfl rfl (by decide +kernel) ⟨(Nat.le_of_ble_eq_true rfl), (Nat.le_of_ble_eq_true rfl)⟩) ⟨mP_blind, va_recv hK hPm (ci := 15) (q0 := 0) rfl rfl, mP_at hPm hK hDm⟩ rfl rfl hl.1 rfl (lv_room (Nat.le_of_ble_eq_true rfl)) dL_law_529 ⟨(Nat.le_of_ble_eq_true rfl), (Nat.le_of_ble_eq_true rfl)⟩) hS (fun q hq h => absurd h (Nat.not_le.mpr hq)) (fun q h => Nat.le_trans hS.1 h) (fun r3 u9 t H locs ht hvm hw hB hz1 hk1 hS => ?_)
  have hw : r3 = 1 := hw
  subst hw
  refine lv_iload hx hb dL_law_532 (lv_at hl 1 rfl) ?_
  refine lv_icmp_eq (tgt := 539) hx hb dL_law_534 (by decide) (fun _ => ?_) (fun h9 => absurd (by decide) h9)
  refine lv_iload hx hb dL_law_539 (lv_at hl 1 rfl) ?_
  refine lv_if_ne (tgt := 556) hx hb dL_law_541 (by decide) (fun _ => ?_) (fun h9 => absurd h9 (by decide))
  refine lv_goto (tgt := 1833) hx hb dL_law_556 (by decide) ?_
  exact law_next l C0 (Nat.le_of_ble_eq_true rfl) (Nat.le_of_ble_eq_true rfl) hS (lv_sub hl [2, 6] rfl)
set_option maxHeartbeats 4000000 in
set_option maxRecDepth 100000 in
theorem law_add {p : Program} {e : Env} {s : State} {m : MethodId} {below : List Frame} {meth : Method} {c : Code} (l : Launch) (hst : l.stackTraces = false) {b : Nat} {xs : Nat → Int32} (C0 : lw_At p s m meth c b 4 xs) (hev : ev s) (hdv : dv s) (hZ : zz s.heap.size s s.heap) {dC : Nat → ClassId} {dI : Nat → Nat → Nat} {qx qm qo : Nat} {fs ms : List Value} {H : Heap} (hf : xF fs) (hm : mF ms) (hK : va_K (dC, dI) clx [] s) (hPx : va_P (dC, dI) clx [(qx, .inr (11, fs))] H) (hPm : va_P (dC, dI) clx [(qm, .inr (15, ms))] H) (hDm : va_D (nw s.heap.size) [(qm, .inr (15, ms))]) {locs : List Loc} (hS : va_S (nw s.heap.size) s.heap H locs) {ls : Array Slot} (hl : lv_has ls 8 [(4, .int 0), (3, .ref qo), (2, .ref qm), (1, .ref qx), (0, .ref b)]) : W p l e room_1 s m #[Value.ref b] below meth c H locs 340 146681 (lw_Z below #[Value.ref b] s) (F0 m 559 ls []) := by
  obtain ⟨hx, hb, hr, hml, hown, hts, hX, hbl, hlocks, hgv⟩ := id C0
  have hu : ∀ w ∈ wU, w.before #[Value.ref b] s = true := fun w h => hts w (wU_sub h)
  have hown : s.vm.findClass RL = some m.cls := hown
  have hA : ∀ q : Nat, s.heap.size ≤ q → nw s.heap.size q := fun _ h => h
  have hbA : ¬ nw s.heap.size b := Nat.not_le.mpr hbl
  refine lv_aload_n hx hb dL_law_559 rfl (lv_at hl 3 rfl) ?_
  refine lv_aload_n hx hb dL_law_560 rfl (lv_at hl 4 rfl) ?_
  refine lv_iload hx hb dL_law_561 (lv_at hl 0 rfl) ?_
  refine lv_iconst (v := 1) hx hb dL_law_563 (by decide) ?_
  refine lv_iadd hx hb dL_law_564 ?_
  refine va_sld hx hb hX hbl hbA hS in_1 dL_law_565 ?_
  refine lv_aload_n hx hb dL_law_566 rfl (lv_at hl 4 rfl) ?_
  refine lv_iload hx hb dL_law_567 (lv_at hl 0 rfl) ?_
  refine lv_iconst (v := 2) hx hb dL_law_569 (by decide) ?_
  refine lv_iadd hx hb dL_law_570 ?_
  refine va_sld hx hb hX hbl hbA hS in_2 dL_law_571 ?_
  refine lv_aload_n hx hb dL_law_572 rfl (lv_at hl 1 rfl) ?_
  refine va_calli (vx_runSW (As := [.ref qx, .int (xs ((0 : Int32) + 1).toNatClampNeg), .int (xs ((0 : Int32) + 2).toNatClampNeg), .ref qo]) (rest := []) ⟨hx, hb, hml, hown, hu⟩ (w_L_add l hst dC dI qx _ qo fs (xs ((0 : Int32) + 1).toNatClampNeg) (xs ((0 : Int32) + 2).toNatClampNeg) hf) (vx_cwSW 4 hu (gS u691 u692 u653 u693) rfl rfl rfl (by decide +kernel) ⟨(Nat.le_of_ble_eq_true rfl), (Nat.le_of_ble_eq_true rfl)⟩) ⟨tQ_blind, tQ_at hPx hK hev hdv (hZ.grown hS.1 hS.2.1)⟩ rfl rfl hl.1 rfl (lv_room (Nat.le_of_ble_eq_true rfl)) dL_law_573 ⟨(Nat.le_of_ble_eq_true rfl), (Nat.le_of_ble_eq_true rfl)⟩) hS (fun q hq h => absurd h (Nat.not_le.mpr hq)) (fun q h => Nat.le_trans hS.1 h) (fun r1 u9 t H locs ht hvm hw hB hz1 hk1 hS => ?_)
  have hw : r1 = 1 := hw
  subst hw
  have hPm := px_kept hPm (fun a ha => hk1 a ha (Nat.not_le.mpr ha))
  refine W.widen (k := 341) (n := 146687) (Nat.le_of_ble_eq_true rfl) (Nat.le_of_ble_eq_true rfl) ?_
  refine lv_istore (lv' := [(5, .int 1), (4, .int 0), (3, .ref qo), (2, .ref qm), (1, .ref qx), (0, .ref b)]) hx hb dL_law_576 hl (by decide) rfl (fun ls hl => ?_)
  refine lv_aload_n hx hb dL_law_578 rfl (lv_at hl 3 rfl) ?_
  refine lv_aload_n hx hb dL_law_579 rfl (lv_at hl 5 rfl) ?_
  refine lv_iload hx hb dL_law_580 (lv_at hl 1 rfl) ?_
  refine lv_iconst (v := 1) hx hb dL_law_582 (by decide) ?_
  refine lv_iadd hx hb dL_law_583 ?_
  refine va_sld hx hb hX hbl hbA hS in_1 dL_law_584 ?_
  refine lv_aload_n hx hb dL_law_585 rfl (lv_at hl 5 rfl) ?_
  refine lv_iload hx hb dL_law_586 (lv_at hl 1 rfl) ?_
  refine lv_iconst (v := 2) hx hb dL_law_588 (by decide) ?_
  refine lv_iadd hx hb dL_law_589 ?_
  refine va_sld hx hb hX hbl hbA hS in_2 dL_law_590 ?_
  have hFc := va_free (wc := [(qm, .inr (15, ms))]) hDm hS hA [0] rfl
  refine va_calli (va_runV (As := [.int (xs ((0 : Int32) + 1).toNatClampNeg), .int (xs ((0 : Int32) + 2).toNatClampNeg)]) (rest := []) ⟨hx, hb, hml, hown, hu⟩ (m_X15_add l dC dI qm _ ms (xs ((0 : Int32) + 1).toNatClampNeg) (xs ((0 : Int32) + 2).toNatClampNeg) hm) (cwV 2 hu (gV u694 u695 u696 u236 u697) rfl rfl rfl (by decide +kernel) ⟨(Nat.le_of_ble_eq_true rfl), (Nat.le_of_ble_eq_true rfl)⟩) ⟨mP_blind, va_recv hK hPm (ci := 15) (q0 := 0) rfl rfl, mP_at hPm hK hDm⟩ rfl rfl hl.1 rfl (lv_room (Nat.le_of_ble_eq_true rfl)) dL_law_591 ⟨(Nat.le_of_ble_eq_true rfl), (Nat.le_of_ble_eq_true rfl)⟩) hS (fun q _ h => hFc q h) hFc (fun r2 u9 t H locs ht hvm hw hB hz1 hk1 hS => ?_)
  have hw : r2 = 0 := hw
  subst hw
  have hPm : va_P (dC, dI) clx [(qm, .inr (15, (ms.set 0 (.int 1))))] t.heap := hB
  rw [ht] at hPm
  have hDm : va_D (nw s.heap.size) [(qm, .inr (15, (ms.set 0 (.int 1))))] := hDm.set (p := 0) rfl
  refine lv_istore (lv' := [(6, .int 0), (5, .int 1), (4, .int 0), (3, .ref qo), (2, .ref qm), (1, .ref qx), (0, .ref b)]) hx hb dL_law_594 hl (by decide) rfl (fun ls hl => ?_)
  refine lv_aload_n hx hb dL_law_596 rfl (lv_at hl 4 rfl) ?_
  refine va_calli (va_runV (As := []) (rest := []) ⟨hx, hb, hml, hown, hu⟩ (r_X15_thrown l dC dI qm _ (ms.set 0 (.int 1)) 1 (List.getElem?_set_self (by rw [hm.2.2.2.2.2]; decide))) (cwV 0 hu (gV u659 u660 u661 u236 u662) rfl rfl rfl (by decide +kernel) ⟨(Nat.le_of_ble_eq_true rfl), (Nat.le_of_ble_eq_true rfl)⟩) ⟨mP_blind, va_recv hK hPm (ci := 15) (q0 := 0) rfl rfl, mP_at hPm hK hDm⟩ rfl rfl hl.1 rfl (lv_room (Nat.le_of_ble_eq_true rfl)) dL_law_597 ⟨(Nat.le_of_ble_eq_true rfl), (Nat.le_of_ble_eq_true rfl)⟩) hS (fun q hq h => absurd h (Nat.not_le.mpr hq)) (fun q h => Nat.le_trans hS.1 h) (fun r3 u9 t H locs ht hvm hw hB hz1 hk1 hS => ?_)
  have hw : r3 = 1 := hw
  subst hw
  refine lv_iload hx hb dL_law_600 (lv_at hl 1 rfl) ?_
  refine lv_icmp_eq (tgt := 607) hx hb dL_law_602 (by decide) (fun _ => ?_) (fun h9 => absurd (by decide) h9)
  refine lv_iload hx hb dL_law_607 (lv_at hl 1 rfl) ?_
  refine lv_if_ne (tgt := 624) hx hb dL_law_609 (by decide) (fun _ => ?_) (fun h9 => absurd h9 (by decide))
  refine lv_goto (tgt := 1833) hx hb dL_law_624 (by decide) ?_
  exact law_next l C0 (Nat.le_of_ble_eq_true rfl) (Nat.le_of_ble_eq_true rfl) hS (lv_sub hl [2, 6] rfl)
set_option maxHeartbeats 4000000 in
set_option maxRecDepth 100000 in
theorem law_mirror {p : Program} {e : Env} {s : State} {m : MethodId} {below : List Frame} {meth : Method} {c : Code} (l : Launch) (hst : l.stackTraces = false) {b : Nat} {xs : Nat → Int32} (C0 : lw_At p s m meth c b 4 xs) (hev : ev s) (hdv : dv s) (hZ : zz s.heap.size s s.heap) {dC : Nat → ClassId} {dI : Nat → Nat → Nat} {qx qm qo : Nat} {fs ms : List Value} {H : Heap} (hf : xF fs) (hm : mF ms) (hK : va_K (dC, dI) clx [] s) (hPx : va_P (dC, dI) clx [(qx, .inr (11, fs))] H) (hPm : va_P (dC, dI) clx [(qm, .inr (15, ms))] H) (hDm : va_D (nw s.heap.size) [(qm, .inr (15, ms))]) {locs : List Loc} (hS : va_S (nw s.heap.size) s.heap H locs) {ls : Array Slot} (hl : lv_has ls 8 [(4, .int 0), (3, .ref qo), (2, .ref qm), (1, .ref qx), (0, .ref b)]) : W p l e room_1 s m #[Value.ref b] below meth c H locs 340 146681 (lw_Z below #[Value.ref b] s) (F0 m 627 ls []) := by
  obtain ⟨hx, hb, hr, hml, hown, hts, hX, hbl, hlocks, hgv⟩ := id C0
  have hu : ∀ w ∈ wU, w.before #[Value.ref b] s = true := fun w h => hts w (wU_sub h)
  have hown : s.vm.findClass RL = some m.cls := hown
  have hA : ∀ q : Nat, s.heap.size ≤ q → nw s.heap.size q := fun _ h => h
  have hbA : ¬ nw s.heap.size b := Nat.not_le.mpr hbl
  refine lv_aload_n hx hb dL_law_627 rfl (lv_at hl 3 rfl) ?_
  refine lv_aload_n hx hb dL_law_628 rfl (lv_at hl 4 rfl) ?_
  refine lv_iload hx hb dL_law_629 (lv_at hl 0 rfl) ?_
  refine lv_iconst (v := 1) hx hb dL_law_631 (by decide) ?_
  refine lv_iadd hx hb dL_law_632 ?_
  refine va_sld hx hb hX hbl hbA hS in_1 dL_law_633 ?_
  refine lv_aload_n hx hb dL_law_634 rfl (lv_at hl 1 rfl) ?_
  refine va_calli (vx_runSW (As := [.ref qx, .int (xs ((0 : Int32) + 1).toNatClampNeg), .ref qo]) (rest := []) ⟨hx, hb, hml, hown, hu⟩ (w_L_mirror l hst dC dI qx _ qo fs (xs ((0 : Int32) + 1).toNatClampNeg) hf) (vx_cwSW 3 hu (gS u698 u699 u653 u700) rfl rfl rfl (by decide +kernel) ⟨(Nat.le_of_ble_eq_true rfl), (Nat.le_of_ble_eq_true rfl)⟩) ⟨tQ_blind, tQ_at hPx hK hev hdv (hZ.grown hS.1 hS.2.1)⟩ rfl rfl hl.1 rfl (lv_room (Nat.le_of_ble_eq_true rfl)) dL_law_635 ⟨(Nat.le_of_ble_eq_true rfl), (Nat.le_of_ble_eq_true rfl)⟩) hS (fun q hq h => absurd h (Nat.not_le.mpr hq)) (fun q h => Nat.le_trans hS.1 h) (fun r1 u9 t H locs ht hvm hw hB hz1 hk1 hS => ?_)
  have hw : r1 = 1 := hw
  subst hw
  have hPm := px_kept hPm (fun a ha => hk1 a ha (Nat.not_le.mpr ha))
  refine W.widen (k := 341) (n := 146687) (Nat.le_of_ble_eq_true rfl) (Nat.le_of_ble_eq_true rfl) ?_
  refine lv_istore (lv' := [(5, .int 1), (4, .int 0), (3, .ref qo), (2, .ref qm), (1, .ref qx), (0, .ref b)]) hx hb dL_law_638 hl (by decide) rfl (fun ls hl => ?_)
  refine lv_aload_n hx hb dL_law_640 rfl (lv_at hl 3 rfl) ?_
  refine lv_aload_n hx hb dL_law_641 rfl (lv_at hl 5 rfl) ?_
  refine lv_iload hx hb dL_law_642 (lv_at hl 1 rfl) ?_
  refine lv_iconst (v := 1) hx hb dL_law_644 (by decide) ?_
  refine lv_iadd hx hb dL_law_645 ?_
  refine va_sld hx hb hX hbl hbA hS in_1 dL_law_646 ?_
  have hFc := va_free (wc := [(qm, .inr (15, ms))]) hDm hS hA [0] rfl
  refine va_calli (va_runV (As := [.int (xs ((0 : Int32) + 1).toNatClampNeg)]) (rest := []) ⟨hx, hb, hml, hown, hu⟩ (m_X15_mirror l dC dI qm _ ms (xs ((0 : Int32) + 1).toNatClampNeg) hm) (cwV 1 hu (gV u701 u702 u703 u236 u704) rfl rfl rfl (by decide +kernel) ⟨(Nat.le_of_ble_eq_true rfl), (Nat.le_of_ble_eq_true rfl)⟩) ⟨mP_blind, va_recv hK hPm (ci := 15) (q0 := 0) rfl rfl, mP_at hPm hK hDm⟩ rfl rfl hl.1 rfl (lv_room (Nat.le_of_ble_eq_true rfl)) dL_law_647 ⟨(Nat.le_of_ble_eq_true rfl), (Nat.le_of_ble_eq_true rfl)⟩) hS (fun q _ h => hFc q h) hFc (fun r2 u9 t H locs ht hvm hw hB hz1 hk1 hS => ?_)
  have hw : r2 = 0 := hw
  subst hw
  have hPm : va_P (dC, dI) clx [(qm, .inr (15, (ms.set 0 (.int 1))))] t.heap := hB
  rw [ht] at hPm
  have hDm : va_D (nw s.heap.size) [(qm, .inr (15, (ms.set 0 (.int 1))))] := hDm.set (p := 0) rfl
  refine lv_istore (lv' := [(6, .int 0), (5, .int 1), (4, .int 0), (3, .ref qo), (2, .ref qm), (1, .ref qx), (0, .ref b)]) hx hb dL_law_650 hl (by decide) rfl (fun ls hl => ?_)
  refine lv_aload_n hx hb dL_law_652 rfl (lv_at hl 4 rfl) ?_
  refine va_calli (va_runV (As := []) (rest := []) ⟨hx, hb, hml, hown, hu⟩ (r_X15_thrown l dC dI qm _ (ms.set 0 (.int 1)) 1 (List.getElem?_set_self (by rw [hm.2.2.2.2.2]; decide))) (cwV 0 hu (gV u659 u660 u661 u236 u662) rfl rfl rfl (by decide +kernel) ⟨(Nat.le_of_ble_eq_true rfl), (Nat.le_of_ble_eq_true rfl)⟩) ⟨mP_blind, va_recv hK hPm (ci := 15) (q0 := 0) rfl rfl, mP_at hPm hK hDm⟩ rfl rfl hl.1 rfl (lv_room (Nat.le_of_ble_eq_true rfl)) dL_law_653 ⟨(Nat.le_of_ble_eq_true rfl), (Nat.le_of_ble_eq_true rfl)⟩) hS (fun q hq h => absurd h (Nat.not_le.mpr hq)) (fun q h => Nat.le_trans hS.1 h) (fun r3 u9 t H locs ht hvm hw hB hz1 hk1 hS => ?_)
  have hw : r3 = 1 := hw
  subst hw
  refine lv_iload hx hb dL_law_656 (lv_at hl 1 rfl) ?_
  refine lv_icmp_eq (tgt := 663) hx hb dL_law_658 (by decide) (fun _ => ?_) (fun h9 => absurd (by decide) h9)
  refine lv_iload hx hb dL_law_663 (lv_at hl 1 rfl) ?_
  refine lv_if_ne (tgt := 680) hx hb dL_law_665 (by decide) (fun _ => ?_) (fun h9 => absurd h9 (by decide))
  refine lv_goto (tgt := 1833) hx hb dL_law_680 (by decide) ?_
  exact law_next l C0 (Nat.le_of_ble_eq_true rfl) (Nat.le_of_ble_eq_true rfl) hS (lv_sub hl [2, 6] rfl)
set_option maxHeartbeats 4000000 in
set_option maxRecDepth 100000 in
theorem law_times {p : Program} {e : Env} {s : State} {m : MethodId} {below : List Frame} {meth : Method} {c : Code} (l : Launch) (hst : l.stackTraces = false) {b : Nat} {xs : Nat → Int32} (C0 : lw_At p s m meth c b 4 xs) (hev : ev s) (hdv : dv s) (hZ : zz s.heap.size s s.heap) {dC : Nat → ClassId} {dI : Nat → Nat → Nat} {qx qm qo : Nat} {fs ms : List Value} {H : Heap} (hf : xF fs) (hm : mF ms) (hK : va_K (dC, dI) clx [] s) (hPx : va_P (dC, dI) clx [(qx, .inr (11, fs))] H) (hPm : va_P (dC, dI) clx [(qm, .inr (15, ms))] H) (hDm : va_D (nw s.heap.size) [(qm, .inr (15, ms))]) {locs : List Loc} (hS : va_S (nw s.heap.size) s.heap H locs) {ls : Array Slot} (hl : lv_has ls 8 [(4, .int 0), (3, .ref qo), (2, .ref qm), (1, .ref qx), (0, .ref b)]) : W p l e room_1 s m #[Value.ref b] below meth c H locs 340 146681 (lw_Z below #[Value.ref b] s) (F0 m 683 ls []) := by
  obtain ⟨hx, hb, hr, hml, hown, hts, hX, hbl, hlocks, hgv⟩ := id C0
  have hu : ∀ w ∈ wU, w.before #[Value.ref b] s = true := fun w h => hts w (wU_sub h)
  have hown : s.vm.findClass RL = some m.cls := hown
  have hA : ∀ q : Nat, s.heap.size ≤ q → nw s.heap.size q := fun _ h => h
  have hbA : ¬ nw s.heap.size b := Nat.not_le.mpr hbl
  refine lv_aload_n hx hb dL_law_683 rfl (lv_at hl 3 rfl) ?_
  refine lv_aload_n hx hb dL_law_684 rfl (lv_at hl 4 rfl) ?_
  refine lv_iload hx hb dL_law_685 (lv_at hl 0 rfl) ?_
  refine lv_iconst (v := 1) hx hb dL_law_687 (by decide) ?_
  refine lv_iadd hx hb dL_law_688 ?_
  refine va_sld hx hb hX hbl hbA hS in_1 dL_law_689 ?_
  refine lv_aload_n hx hb dL_law_690 rfl (lv_at hl 4 rfl) ?_
  refine lv_iload hx hb dL_law_691 (lv_at hl 0 rfl) ?_
  refine lv_iconst (v := 2) hx hb dL_law_693 (by decide) ?_
  refine lv_iadd hx hb dL_law_694 ?_
  refine va_sld hx hb hX hbl hbA hS in_2 dL_law_695 ?_
  refine lv_aload_n hx hb dL_law_696 rfl (lv_at hl 1 rfl) ?_
  refine va_calli (vx_runSW (As := [.ref qx, .int (xs ((0 : Int32) + 1).toNatClampNeg), .int (xs ((0 : Int32) + 2).toNatClampNeg), .ref qo]) (rest := []) ⟨hx, hb, hml, hown, hu⟩ (w_L_times l hst dC dI qx _ qo fs (xs ((0 : Int32) + 1).toNatClampNeg) (xs ((0 : Int32) + 2).toNatClampNeg) hf) (vx_cwSW 4 hu (gS u705 u706 u653 u707) rfl rfl rfl (by decide +kernel) ⟨(Nat.le_of_ble_eq_true rfl), (Nat.le_of_ble_eq_true rfl)⟩) ⟨tQ_blind, tQ_at hPx hK hev hdv (hZ.grown hS.1 hS.2.1)⟩ rfl rfl hl.1 rfl (lv_room (Nat.le_of_ble_eq_true rfl)) dL_law_697 ⟨(Nat.le_of_ble_eq_true rfl), (Nat.le_of_ble_eq_true rfl)⟩) hS (fun q hq h => absurd h (Nat.not_le.mpr hq)) (fun q h => Nat.le_trans hS.1 h) (fun r1 u9 t H locs ht hvm hw hB hz1 hk1 hS => ?_)
  have hw : r1 = 1 := hw
  subst hw
  have hPm := px_kept hPm (fun a ha => hk1 a ha (Nat.not_le.mpr ha))
  refine W.widen (k := 341) (n := 146687) (Nat.le_of_ble_eq_true rfl) (Nat.le_of_ble_eq_true rfl) ?_
  refine lv_istore (lv' := [(5, .int 1), (4, .int 0), (3, .ref qo), (2, .ref qm), (1, .ref qx), (0, .ref b)]) hx hb dL_law_700 hl (by decide) rfl (fun ls hl => ?_)
  refine lv_aload_n hx hb dL_law_702 rfl (lv_at hl 3 rfl) ?_
  refine lv_aload_n hx hb dL_law_703 rfl (lv_at hl 5 rfl) ?_
  refine lv_iload hx hb dL_law_704 (lv_at hl 1 rfl) ?_
  refine lv_iconst (v := 1) hx hb dL_law_706 (by decide) ?_
  refine lv_iadd hx hb dL_law_707 ?_
  refine va_sld hx hb hX hbl hbA hS in_1 dL_law_708 ?_
  refine lv_aload_n hx hb dL_law_709 rfl (lv_at hl 5 rfl) ?_
  refine lv_iload hx hb dL_law_710 (lv_at hl 1 rfl) ?_
  refine lv_iconst (v := 2) hx hb dL_law_712 (by decide) ?_
  refine lv_iadd hx hb dL_law_713 ?_
  refine va_sld hx hb hX hbl hbA hS in_2 dL_law_714 ?_
  have hFc := va_free (wc := [(qm, .inr (15, ms))]) hDm hS hA [0] rfl
  refine va_calli (va_runV (As := [.int (xs ((0 : Int32) + 1).toNatClampNeg), .int (xs ((0 : Int32) + 2).toNatClampNeg)]) (rest := []) ⟨hx, hb, hml, hown, hu⟩ (m_X15_times l dC dI qm _ ms (xs ((0 : Int32) + 1).toNatClampNeg) (xs ((0 : Int32) + 2).toNatClampNeg) hm) (cwV 2 hu (gV u708 u709 u710 u236 u711) rfl rfl rfl (by decide +kernel) ⟨(Nat.le_of_ble_eq_true rfl), (Nat.le_of_ble_eq_true rfl)⟩) ⟨mP_blind, va_recv hK hPm (ci := 15) (q0 := 0) rfl rfl, mP_at hPm hK hDm⟩ rfl rfl hl.1 rfl (lv_room (Nat.le_of_ble_eq_true rfl)) dL_law_715 ⟨(Nat.le_of_ble_eq_true rfl), (Nat.le_of_ble_eq_true rfl)⟩) hS (fun q _ h => hFc q h) hFc (fun r2 u9 t H locs ht hvm hw hB hz1 hk1 hS => ?_)
  have hw : r2 = 0 := hw
  subst hw
  have hPm : va_P (dC, dI) clx [(qm, .inr (15, (ms.set 0 (.int 1))))] t.heap := hB
  rw [ht] at hPm
  have hDm : va_D (nw s.heap.size) [(qm, .inr (15, (ms.set 0 (.int 1))))] := hDm.set (p := 0) rfl
  refine lv_istore (lv' := [(6, .int 0), (5, .int 1), (4, .int 0), (3, .ref qo), (2, .ref qm), (1, .ref qx), (0, .ref b)]) hx hb dL_law_718 hl (by decide) rfl (fun ls hl => ?_)
  refine lv_aload_n hx hb dL_law_720 rfl (lv_at hl 4 rfl) ?_
  refine va_calli (va_runV (As := []) (rest := []) ⟨hx, hb, hml, hown, hu⟩ (r_X15_thrown l dC dI qm _ (ms.set 0 (.int 1)) 1 (List.getElem?_set_self (by rw [hm.2.2.2.2.2]; decide))) (cwV 0 hu (gV u659 u660 u661 u236 u662) rfl rfl rfl (by decide +kernel) ⟨(Nat.le_of_ble_eq_true rfl), (Nat.le_of_ble_eq_true rfl)⟩) ⟨mP_blind, va_recv hK hPm (ci := 15) (q0 := 0) rfl rfl, mP_at hPm hK hDm⟩ rfl rfl hl.1 rfl (lv_room (Nat.le_of_ble_eq_true rfl)) dL_law_721 ⟨(Nat.le_of_ble_eq_true rfl), (Nat.le_of_ble_eq_true rfl)⟩) hS (fun q hq h => absurd h (Nat.not_le.mpr hq)) (fun q h => Nat.le_trans hS.1 h) (fun r3 u9 t H locs ht hvm hw hB hz1 hk1 hS => ?_)
  have hw : r3 = 1 := hw
  subst hw
  refine lv_iload hx hb dL_law_724 (lv_at hl 1 rfl) ?_
  refine lv_icmp_eq (tgt := 731) hx hb dL_law_726 (by decide) (fun _ => ?_) (fun h9 => absurd (by decide) h9)
  refine lv_iload hx hb dL_law_731 (lv_at hl 1 rfl) ?_
  refine lv_if_ne (tgt := 748) hx hb dL_law_733 (by decide) (fun _ => ?_) (fun h9 => absurd h9 (by decide))
  refine lv_goto (tgt := 1833) hx hb dL_law_748 (by decide) ?_
  exact law_next l C0 (Nat.le_of_ble_eq_true rfl) (Nat.le_of_ble_eq_true rfl) hS (lv_sub hl [2, 6] rfl)
set_option maxHeartbeats 4000000 in
set_option maxRecDepth 100000 in
theorem law_order {p : Program} {e : Env} {s : State} {m : MethodId} {below : List Frame} {meth : Method} {c : Code} (l : Launch) (hst : l.stackTraces = false) {b : Nat} {xs : Nat → Int32} (C0 : lw_At p s m meth c b 4 xs) (hev : ev s) (hdv : dv s) (hZ : zz s.heap.size s s.heap) {dC : Nat → ClassId} {dI : Nat → Nat → Nat} {qx qm qo : Nat} {fs ms : List Value} {H : Heap} (hf : xF fs) (hm : mF ms) (hK : va_K (dC, dI) clx [] s) (hPx : va_P (dC, dI) clx [(qx, .inr (11, fs))] H) (hPm : va_P (dC, dI) clx [(qm, .inr (15, ms))] H) (hDm : va_D (nw s.heap.size) [(qm, .inr (15, ms))]) {locs : List Loc} (hS : va_S (nw s.heap.size) s.heap H locs) {ls : Array Slot} (hl : lv_has ls 8 [(4, .int 0), (3, .ref qo), (2, .ref qm), (1, .ref qx), (0, .ref b)]) : W p l e room_1 s m #[Value.ref b] below meth c H locs 340 146681 (lw_Z below #[Value.ref b] s) (F0 m 751 ls []) := by
  obtain ⟨hx, hb, hr, hml, hown, hts, hX, hbl, hlocks, hgv⟩ := id C0
  have hu : ∀ w ∈ wU, w.before #[Value.ref b] s = true := fun w h => hts w (wU_sub h)
  have hown : s.vm.findClass RL = some m.cls := hown
  have hA : ∀ q : Nat, s.heap.size ≤ q → nw s.heap.size q := fun _ h => h
  have hbA : ¬ nw s.heap.size b := Nat.not_le.mpr hbl
  refine lv_aload_n hx hb dL_law_751 rfl (lv_at hl 3 rfl) ?_
  refine lv_aload_n hx hb dL_law_752 rfl (lv_at hl 4 rfl) ?_
  refine lv_iload hx hb dL_law_753 (lv_at hl 0 rfl) ?_
  refine lv_iconst (v := 1) hx hb dL_law_755 (by decide) ?_
  refine lv_iadd hx hb dL_law_756 ?_
  refine va_sld hx hb hX hbl hbA hS in_1 dL_law_757 ?_
  refine lv_aload_n hx hb dL_law_758 rfl (lv_at hl 1 rfl) ?_
  refine va_calli (vx_runSW (As := [.ref qx, .int (xs ((0 : Int32) + 1).toNatClampNeg), .ref qo]) (rest := []) ⟨hx, hb, hml, hown, hu⟩ (w_L_order l hst dC dI qx _ qo fs (xs ((0 : Int32) + 1).toNatClampNeg) hf) (vx_cwSW 3 hu (gS u712 u713 u653 u714) rfl rfl rfl (by decide +kernel) ⟨(Nat.le_of_ble_eq_true rfl), (Nat.le_of_ble_eq_true rfl)⟩) ⟨tQ_blind, tQ_at hPx hK hev hdv (hZ.grown hS.1 hS.2.1)⟩ rfl rfl hl.1 rfl (lv_room (Nat.le_of_ble_eq_true rfl)) dL_law_759 ⟨(Nat.le_of_ble_eq_true rfl), (Nat.le_of_ble_eq_true rfl)⟩) hS (fun q hq h => absurd h (Nat.not_le.mpr hq)) (fun q h => Nat.le_trans hS.1 h) (fun r1 u9 t H locs ht hvm hw hB hz1 hk1 hS => ?_)
  have hw : r1 = 1 := hw
  subst hw
  have hPm := px_kept hPm (fun a ha => hk1 a ha (Nat.not_le.mpr ha))
  refine W.widen (k := 341) (n := 146687) (Nat.le_of_ble_eq_true rfl) (Nat.le_of_ble_eq_true rfl) ?_
  refine lv_istore (lv' := [(5, .int 1), (4, .int 0), (3, .ref qo), (2, .ref qm), (1, .ref qx), (0, .ref b)]) hx hb dL_law_762 hl (by decide) rfl (fun ls hl => ?_)
  refine lv_aload_n hx hb dL_law_764 rfl (lv_at hl 3 rfl) ?_
  refine lv_aload_n hx hb dL_law_765 rfl (lv_at hl 5 rfl) ?_
  refine lv_iload hx hb dL_law_766 (lv_at hl 1 rfl) ?_
  refine lv_iconst (v := 1) hx hb dL_law_768 (by decide) ?_
  refine lv_iadd hx hb dL_law_769 ?_
  refine va_sld hx hb hX hbl hbA hS in_1 dL_law_770 ?_
  have hFc := va_free (wc := [(qm, .inr (15, ms))]) hDm hS hA [0] rfl
  refine va_calli (va_runV (As := [.int (xs ((0 : Int32) + 1).toNatClampNeg)]) (rest := []) ⟨hx, hb, hml, hown, hu⟩ (m_X15_order l dC dI qm _ ms (xs ((0 : Int32) + 1).toNatClampNeg) hm) (cwV 1 hu (gV u715 u716 u717 u236 u718) rfl rfl rfl (by decide +kernel) ⟨(Nat.le_of_ble_eq_true rfl), (Nat.le_of_ble_eq_true rfl)⟩) ⟨mP_blind, va_recv hK hPm (ci := 15) (q0 := 0) rfl rfl, mP_at hPm hK hDm⟩ rfl rfl hl.1 rfl (lv_room (Nat.le_of_ble_eq_true rfl)) dL_law_771 ⟨(Nat.le_of_ble_eq_true rfl), (Nat.le_of_ble_eq_true rfl)⟩) hS (fun q _ h => hFc q h) hFc (fun r2 u9 t H locs ht hvm hw hB hz1 hk1 hS => ?_)
  have hw : r2 = 0 := hw
  subst hw
  have hPm : va_P (dC, dI) clx [(qm, .inr (15, (ms.set 0 (.int 1))))] t.heap := hB
  rw [ht] at hPm
  have hDm : va_D (nw s.heap.size) [(qm, .inr (15, (ms.set 0 (.int 1))))] := hDm.set (p := 0) rfl
  refine lv_istore (lv' := [(6, .int 0), (5, .int 1), (4, .int 0), (3, .ref qo), (2, .ref qm), (1, .ref qx), (0, .ref b)]) hx hb dL_law_774 hl (by decide) rfl (fun ls hl => ?_)
  refine lv_aload_n hx hb dL_law_776 rfl (lv_at hl 4 rfl) ?_
  refine va_calli (va_runV (As := []) (rest := []) ⟨hx, hb, hml, hown, hu⟩ (r_X15_thrown l dC dI qm _ (ms.set 0 (.int 1)) 1 (List.getElem?_set_self (by rw [hm.2.2.2.2.2]; decide))) (cwV 0 hu (gV u659 u660 u661 u236 u662) rfl rfl rfl (by decide +kernel) ⟨(Nat.le_of_ble_eq_true rfl), (Nat.le_of_ble_eq_true rfl)⟩) ⟨mP_blind, va_recv hK hPm (ci := 15) (q0 := 0) rfl rfl, mP_at hPm hK hDm⟩ rfl rfl hl.1 rfl (lv_room (Nat.le_of_ble_eq_true rfl)) dL_law_777 ⟨(Nat.le_of_ble_eq_true rfl), (Nat.le_of_ble_eq_true rfl)⟩) hS (fun q hq h => absurd h (Nat.not_le.mpr hq)) (fun q h => Nat.le_trans hS.1 h) (fun r3 u9 t H locs ht hvm hw hB hz1 hk1 hS => ?_)
  have hw : r3 = 1 := hw
  subst hw
  refine lv_iload hx hb dL_law_780 (lv_at hl 1 rfl) ?_
  refine lv_icmp_eq (tgt := 787) hx hb dL_law_782 (by decide) (fun _ => ?_) (fun h9 => absurd (by decide) h9)
  refine lv_iload hx hb dL_law_787 (lv_at hl 1 rfl) ?_
  refine lv_if_ne (tgt := 804) hx hb dL_law_789 (by decide) (fun _ => ?_) (fun h9 => absurd h9 (by decide))
  refine lv_goto (tgt := 1833) hx hb dL_law_804 (by decide) ?_
  exact law_next l C0 (Nat.le_of_ble_eq_true rfl) (Nat.le_of_ble_eq_true rfl) hS (lv_sub hl [2, 6] rfl)
set_option maxHeartbeats 4000000 in
set_option maxRecDepth 100000 in
theorem law_told {p : Program} {e : Env} {s : State} {m : MethodId} {below : List Frame} {meth : Method} {c : Code} (l : Launch) (hst : l.stackTraces = false) {b : Nat} {xs : Nat → Int32} (C0 : lw_At p s m meth c b 4 xs) (hev : ev s) (hdv : dv s) (hZ : zz s.heap.size s s.heap) {dC : Nat → ClassId} {dI : Nat → Nat → Nat} {qx qm qo : Nat} {fs ms : List Value} {H : Heap} (hf : xF fs) (hm : mF ms) (hK : va_K (dC, dI) clx [] s) (hPx : va_P (dC, dI) clx [(qx, .inr (11, fs))] H) (hPm : va_P (dC, dI) clx [(qm, .inr (15, ms))] H) (hDm : va_D (nw s.heap.size) [(qm, .inr (15, ms))]) {locs : List Loc} (hS : va_S (nw s.heap.size) s.heap H locs) {ls : Array Slot} (hl : lv_has ls 8 [(4, .int 0), (3, .ref qo), (2, .ref qm), (1, .ref qx), (0, .ref b)]) : W p l e room_1 s m #[Value.ref b] below meth c H locs 340 146681 (lw_Z below #[Value.ref b] s) (F0 m 807 ls []) := by
  obtain ⟨hx, hb, hr, hml, hown, hts, hX, hbl, hlocks, hgv⟩ := id C0
  have hu : ∀ w ∈ wU, w.before #[Value.ref b] s = true := fun w h => hts w (wU_sub h)
  have hown : s.vm.findClass RL = some m.cls := hown
  have hA : ∀ q : Nat, s.heap.size ≤ q → nw s.heap.size q := fun _ h => h
  have hbA : ¬ nw s.heap.size b := Nat.not_le.mpr hbl
  refine lv_aload_n hx hb dL_law_807 rfl (lv_at hl 3 rfl) ?_
  refine lv_aload_n hx hb dL_law_808 rfl (lv_at hl 4 rfl) ?_
  refine lv_iload hx hb dL_law_809 (lv_at hl 0 rfl) ?_
  refine lv_iconst (v := 1) hx hb dL_law_811 (by decide) ?_
  refine lv_iadd hx hb dL_law_812 ?_
  refine va_sld hx hb hX hbl hbA hS in_1 dL_law_813 ?_
  refine lv_aload_n hx hb dL_law_814 rfl (lv_at hl 4 rfl) ?_
  refine lv_iload hx hb dL_law_815 (lv_at hl 0 rfl) ?_
  refine lv_iconst (v := 2) hx hb dL_law_817 (by decide) ?_
  refine lv_iadd hx hb dL_law_818 ?_
  refine va_sld hx hb hX hbl hbA hS in_2 dL_law_819 ?_
  refine lv_aload_n hx hb dL_law_820 rfl (lv_at hl 1 rfl) ?_
  refine va_calli (vx_runSW (As := [.ref qx, .int (xs ((0 : Int32) + 1).toNatClampNeg), .int (xs ((0 : Int32) + 2).toNatClampNeg), .ref qo]) (rest := []) ⟨hx, hb, hml, hown, hu⟩ (w_L_told l hst dC dI qx _ qo fs (xs ((0 : Int32) + 1).toNatClampNeg) (xs ((0 : Int32) + 2).toNatClampNeg) hf) (vx_cwSW 4 hu (gS u719 u720 u653 u721) rfl rfl rfl (by decide +kernel) ⟨(Nat.le_of_ble_eq_true rfl), (Nat.le_of_ble_eq_true rfl)⟩) ⟨tQ_blind, tQ_at hPx hK hev hdv (hZ.grown hS.1 hS.2.1)⟩ rfl rfl hl.1 rfl (lv_room (Nat.le_of_ble_eq_true rfl)) dL_law_821 ⟨(Nat.le_of_ble_eq_true rfl), (Nat.le_of_ble_eq_true rfl)⟩) hS (fun q hq h => absurd h (Nat.not_le.mpr hq)) (fun q h => Nat.le_trans hS.1 h) (fun r1 u9 t H locs ht hvm hw hB hz1 hk1 hS => ?_)
  have hw : r1 = 1 := hw
  subst hw
  have hPm := px_kept hPm (fun a ha => hk1 a ha (Nat.not_le.mpr ha))
  refine W.widen (k := 341) (n := 146687) (Nat.le_of_ble_eq_true rfl) (Nat.le_of_ble_eq_true rfl) ?_
  refine lv_istore (lv' := [(5, .int 1), (4, .int 0), (3, .ref qo), (2, .ref qm), (1, .ref qx), (0, .ref b)]) hx hb dL_law_824 hl (by decide) rfl (fun ls hl => ?_)
  refine lv_aload_n hx hb dL_law_826 rfl (lv_at hl 3 rfl) ?_
  refine lv_aload_n hx hb dL_law_827 rfl (lv_at hl 5 rfl) ?_
  refine lv_iload hx hb dL_law_828 (lv_at hl 1 rfl) ?_
  refine lv_iconst (v := 1) hx hb dL_law_830 (by decide) ?_
  refine lv_iadd hx hb dL_law_831 ?_
  refine va_sld hx hb hX hbl hbA hS in_1 dL_law_832 ?_
  refine lv_aload_n hx hb dL_law_833 rfl (lv_at hl 5 rfl) ?_
  refine lv_iload hx hb dL_law_834 (lv_at hl 1 rfl) ?_
  refine lv_iconst (v := 2) hx hb dL_law_836 (by decide) ?_
  refine lv_iadd hx hb dL_law_837 ?_
  refine va_sld hx hb hX hbl hbA hS in_2 dL_law_838 ?_
  have hFc := va_free (wc := [(qm, .inr (15, ms))]) hDm hS hA [0] rfl
  refine va_calli (va_runV (As := [.int (xs ((0 : Int32) + 1).toNatClampNeg), .int (xs ((0 : Int32) + 2).toNatClampNeg)]) (rest := []) ⟨hx, hb, hml, hown, hu⟩ (m_X15_told l dC dI qm _ ms (xs ((0 : Int32) + 1).toNatClampNeg) (xs ((0 : Int32) + 2).toNatClampNeg) hm) (cwV 2 hu (gV u722 u723 u724 u236 u725) rfl rfl rfl (by decide +kernel) ⟨(Nat.le_of_ble_eq_true rfl), (Nat.le_of_ble_eq_true rfl)⟩) ⟨mP_blind, va_recv hK hPm (ci := 15) (q0 := 0) rfl rfl, mP_at hPm hK hDm⟩ rfl rfl hl.1 rfl (lv_room (Nat.le_of_ble_eq_true rfl)) dL_law_839 ⟨(Nat.le_of_ble_eq_true rfl), (Nat.le_of_ble_eq_true rfl)⟩) hS (fun q _ h => hFc q h) hFc (fun r2 u9 t H locs ht hvm hw hB hz1 hk1 hS => ?_)
  have hw : r2 = 0 := hw
  subst hw
  have hPm : va_P (dC, dI) clx [(qm, .inr (15, (ms.set 0 (.int 1))))] t.heap := hB
  rw [ht] at hPm
  have hDm : va_D (nw s.heap.size) [(qm, .inr (15, (ms.set 0 (.int 1))))] := hDm.set (p := 0) rfl
  refine lv_istore (lv' := [(6, .int 0), (5, .int 1), (4, .int 0), (3, .ref qo), (2, .ref qm), (1, .ref qx), (0, .ref b)]) hx hb dL_law_842 hl (by decide) rfl (fun ls hl => ?_)
  refine lv_aload_n hx hb dL_law_844 rfl (lv_at hl 4 rfl) ?_
  refine va_calli (va_runV (As := []) (rest := []) ⟨hx, hb, hml, hown, hu⟩ (r_X15_thrown l dC dI qm _ (ms.set 0 (.int 1)) 1 (List.getElem?_set_self (by rw [hm.2.2.2.2.2]; decide))) (cwV 0 hu (gV u659 u660 u661 u236 u662) rfl rfl rfl (by decide +kernel) ⟨(Nat.le_of_ble_eq_true rfl), (Nat.le_of_ble_eq_true rfl)⟩) ⟨mP_blind, va_recv hK hPm (ci := 15) (q0 := 0) rfl rfl, mP_at hPm hK hDm⟩ rfl rfl hl.1 rfl (lv_room (Nat.le_of_ble_eq_true rfl)) dL_law_845 ⟨(Nat.le_of_ble_eq_true rfl), (Nat.le_of_ble_eq_true rfl)⟩) hS (fun q hq h => absurd h (Nat.not_le.mpr hq)) (fun q h => Nat.le_trans hS.1 h) (fun r3 u9 t H locs ht hvm hw hB hz1 hk1 hS => ?_)
  have hw : r3 = 1 := hw
  subst hw
  refine lv_iload hx hb dL_law_848 (lv_at hl 1 rfl) ?_
  refine lv_icmp_eq (tgt := 855) hx hb dL_law_850 (by decide) (fun _ => ?_) (fun h9 => absurd (by decide) h9)
  refine lv_iload hx hb dL_law_855 (lv_at hl 1 rfl) ?_
  refine lv_if_ne (tgt := 872) hx hb dL_law_857 (by decide) (fun _ => ?_) (fun h9 => absurd h9 (by decide))
  refine lv_goto (tgt := 1833) hx hb dL_law_872 (by decide) ?_
  exact law_next l C0 (Nat.le_of_ble_eq_true rfl) (Nat.le_of_ble_eq_true rfl) hS (lv_sub hl [2, 6] rfl)
set_option maxHeartbeats 4000000 in
set_option maxRecDepth 100000 in
theorem law_print {p : Program} {e : Env} {s : State} {m : MethodId} {below : List Frame} {meth : Method} {c : Code} (l : Launch) (hst : l.stackTraces = false) {b : Nat} {xs : Nat → Int32} (C0 : lw_At p s m meth c b 4 xs) (hev : ev s) (hdv : dv s) (hZ : zz s.heap.size s s.heap) {dC : Nat → ClassId} {dI : Nat → Nat → Nat} {qx qm qo : Nat} {fs ms : List Value} {H : Heap} (hf : xF fs) (hm : mF ms) (hK : va_K (dC, dI) clx [] s) (hPx : va_P (dC, dI) clx [(qx, .inr (11, fs))] H) (hPm : va_P (dC, dI) clx [(qm, .inr (15, ms))] H) (hDm : va_D (nw s.heap.size) [(qm, .inr (15, ms))]) {locs : List Loc} (hS : va_S (nw s.heap.size) s.heap H locs) {ls : Array Slot} (hl : lv_has ls 8 [(4, .int 0), (3, .ref qo), (2, .ref qm), (1, .ref qx), (0, .ref b)]) : W p l e room_1 s m #[Value.ref b] below meth c H locs 340 146681 (lw_Z below #[Value.ref b] s) (F0 m 875 ls []) := by
  obtain ⟨hx, hb, hr, hml, hown, hts, hX, hbl, hlocks, hgv⟩ := id C0
  have hu : ∀ w ∈ wU, w.before #[Value.ref b] s = true := fun w h => hts w (wU_sub h)
  have hown : s.vm.findClass RL = some m.cls := hown
  have hA : ∀ q : Nat, s.heap.size ≤ q → nw s.heap.size q := fun _ h => h
  have hbA : ¬ nw s.heap.size b := Nat.not_le.mpr hbl
  refine lv_aload_n hx hb dL_law_875 rfl (lv_at hl 3 rfl) ?_
  refine lv_aload_n hx hb dL_law_876 rfl (lv_at hl 4 rfl) ?_
  refine lv_iload hx hb dL_law_877 (lv_at hl 0 rfl) ?_
  refine lv_iconst (v := 1) hx hb dL_law_879 (by decide) ?_
  refine lv_iadd hx hb dL_law_880 ?_
  refine va_sld hx hb hX hbl hbA hS in_1 dL_law_881 ?_
  refine lv_aload_n hx hb dL_law_882 rfl (lv_at hl 4 rfl) ?_
  refine lv_iload hx hb dL_law_883 (lv_at hl 0 rfl) ?_
  refine lv_iconst (v := 2) hx hb dL_law_885 (by decide) ?_
  refine lv_iadd hx hb dL_law_886 ?_
  refine va_sld hx hb hX hbl hbA hS in_2 dL_law_887 ?_
  refine lv_aload_n hx hb dL_law_888 rfl (lv_at hl 1 rfl) ?_
  refine va_calli (vx_runSW (As := [.ref qx, .int (xs ((0 : Int32) + 1).toNatClampNeg), .int (xs ((0 : Int32) + 2).toNatClampNeg), .ref qo]) (rest := []) ⟨hx, hb, hml, hown, hu⟩ (w_L_print l hst dC dI qx _ qo fs (xs ((0 : Int32) + 1).toNatClampNeg) (xs ((0 : Int32) + 2).toNatClampNeg) hf) (vx_cwSW 4 hu (gS u726 u727 u653 u728) rfl rfl rfl (by decide +kernel) ⟨(Nat.le_of_ble_eq_true rfl), (Nat.le_of_ble_eq_true rfl)⟩) ⟨tQ_blind, tQ_at hPx hK hev hdv (hZ.grown hS.1 hS.2.1)⟩ rfl rfl hl.1 rfl (lv_room (Nat.le_of_ble_eq_true rfl)) dL_law_889 ⟨(Nat.le_of_ble_eq_true rfl), (Nat.le_of_ble_eq_true rfl)⟩) hS (fun q hq h => absurd h (Nat.not_le.mpr hq)) (fun q h => Nat.le_trans hS.1 h) (fun r1 u9 t H locs ht hvm hw hB hz1 hk1 hS => ?_)
  have hw : r1 = 1 := hw
  subst hw
  have hPm := px_kept hPm (fun a ha => hk1 a ha (Nat.not_le.mpr ha))
  refine W.widen (k := 341) (n := 146687) (Nat.le_of_ble_eq_true rfl) (Nat.le_of_ble_eq_true rfl) ?_
  refine lv_istore (lv' := [(5, .int 1), (4, .int 0), (3, .ref qo), (2, .ref qm), (1, .ref qx), (0, .ref b)]) hx hb dL_law_892 hl (by decide) rfl (fun ls hl => ?_)
  refine lv_aload_n hx hb dL_law_894 rfl (lv_at hl 3 rfl) ?_
  refine lv_aload_n hx hb dL_law_895 rfl (lv_at hl 5 rfl) ?_
  refine lv_iload hx hb dL_law_896 (lv_at hl 1 rfl) ?_
  refine lv_iconst (v := 1) hx hb dL_law_898 (by decide) ?_
  refine lv_iadd hx hb dL_law_899 ?_
  refine va_sld hx hb hX hbl hbA hS in_1 dL_law_900 ?_
  refine lv_aload_n hx hb dL_law_901 rfl (lv_at hl 5 rfl) ?_
  refine lv_iload hx hb dL_law_902 (lv_at hl 1 rfl) ?_
  refine lv_iconst (v := 2) hx hb dL_law_904 (by decide) ?_
  refine lv_iadd hx hb dL_law_905 ?_
  refine va_sld hx hb hX hbl hbA hS in_2 dL_law_906 ?_
  have hFc := va_free (wc := [(qm, .inr (15, ms))]) hDm hS hA [0] rfl
  refine va_calli (va_runV (As := [.int (xs ((0 : Int32) + 1).toNatClampNeg), .int (xs ((0 : Int32) + 2).toNatClampNeg)]) (rest := []) ⟨hx, hb, hml, hown, hu⟩ (m_X15_print l dC dI qm _ ms (xs ((0 : Int32) + 1).toNatClampNeg) (xs ((0 : Int32) + 2).toNatClampNeg) hm) (cwV 2 hu (gV u729 u730 u731 u236 u732) rfl rfl rfl (by decide +kernel) ⟨(Nat.le_of_ble_eq_true rfl), (Nat.le_of_ble_eq_true rfl)⟩) ⟨mP_blind, va_recv hK hPm (ci := 15) (q0 := 0) rfl rfl, mP_at hPm hK hDm⟩ rfl rfl hl.1 rfl (lv_room (Nat.le_of_ble_eq_true rfl)) dL_law_907 ⟨(Nat.le_of_ble_eq_true rfl), (Nat.le_of_ble_eq_true rfl)⟩) hS (fun q _ h => hFc q h) hFc (fun r2 u9 t H locs ht hvm hw hB hz1 hk1 hS => ?_)
  have hw : r2 = 0 := hw
  subst hw
  have hPm : va_P (dC, dI) clx [(qm, .inr (15, (ms.set 0 (.int 1))))] t.heap := hB
  rw [ht] at hPm
  have hDm : va_D (nw s.heap.size) [(qm, .inr (15, (ms.set 0 (.int 1))))] := hDm.set (p := 0) rfl
  refine lv_istore (lv' := [(6, .int 0), (5, .int 1), (4, .int 0), (3, .ref qo), (2, .ref qm), (1, .ref qx), (0, .ref b)]) hx hb dL_law_910 hl (by decide) rfl (fun ls hl => ?_)
  refine lv_aload_n hx hb dL_law_912 rfl (lv_at hl 4 rfl) ?_
  refine va_calli (va_runV (As := []) (rest := []) ⟨hx, hb, hml, hown, hu⟩ (r_X15_thrown l dC dI qm _ (ms.set 0 (.int 1)) 1 (List.getElem?_set_self (by rw [hm.2.2.2.2.2]; decide))) (cwV 0 hu (gV u659 u660 u661 u236 u662) rfl rfl rfl (by decide +kernel) ⟨(Nat.le_of_ble_eq_true rfl), (Nat.le_of_ble_eq_true rfl)⟩) ⟨mP_blind, va_recv hK hPm (ci := 15) (q0 := 0) rfl rfl, mP_at hPm hK hDm⟩ rfl rfl hl.1 rfl (lv_room (Nat.le_of_ble_eq_true rfl)) dL_law_913 ⟨(Nat.le_of_ble_eq_true rfl), (Nat.le_of_ble_eq_true rfl)⟩) hS (fun q hq h => absurd h (Nat.not_le.mpr hq)) (fun q h => Nat.le_trans hS.1 h) (fun r3 u9 t H locs ht hvm hw hB hz1 hk1 hS => ?_)
  have hw : r3 = 1 := hw
  subst hw
  refine lv_iload hx hb dL_law_916 (lv_at hl 1 rfl) ?_
  refine lv_icmp_eq (tgt := 923) hx hb dL_law_918 (by decide) (fun _ => ?_) (fun h9 => absurd (by decide) h9)
  refine lv_iload hx hb dL_law_923 (lv_at hl 1 rfl) ?_
  refine lv_if_ne (tgt := 940) hx hb dL_law_925 (by decide) (fun _ => ?_) (fun h9 => absurd h9 (by decide))
  refine lv_goto (tgt := 1833) hx hb dL_law_940 (by decide) ?_
  exact law_next l C0 (Nat.le_of_ble_eq_true rfl) (Nat.le_of_ble_eq_true rfl) hS (lv_sub hl [2, 6] rfl)
set_option maxHeartbeats 4000000 in
set_option maxRecDepth 100000 in
theorem law_back {p : Program} {e : Env} {s : State} {m : MethodId} {below : List Frame} {meth : Method} {c : Code} (l : Launch) (hst : l.stackTraces = false) {b : Nat} {xs : Nat → Int32} (C0 : lw_At p s m meth c b 4 xs) (hev : ev s) (hdv : dv s) (hZ : zz s.heap.size s s.heap) {dC : Nat → ClassId} {dI : Nat → Nat → Nat} {qx qm qo : Nat} {fs ms : List Value} {H : Heap} (hf : xF fs) (hm : mF ms) (hK : va_K (dC, dI) clx [] s) (hPx : va_P (dC, dI) clx [(qx, .inr (11, fs))] H) (hPm : va_P (dC, dI) clx [(qm, .inr (15, ms))] H) (hDm : va_D (nw s.heap.size) [(qm, .inr (15, ms))]) {locs : List Loc} (hS : va_S (nw s.heap.size) s.heap H locs) {ls : Array Slot} (hl : lv_has ls 8 [(4, .int 0), (3, .ref qo), (2, .ref qm), (1, .ref qx), (0, .ref b)]) : W p l e room_1 s m #[Value.ref b] below meth c H locs 340 146681 (lw_Z below #[Value.ref b] s) (F0 m 943 ls []) := by
  obtain ⟨hx, hb, hr, hml, hown, hts, hX, hbl, hlocks, hgv⟩ := id C0
  have hu : ∀ w ∈ wU, w.before #[Value.ref b] s = true := fun w h => hts w (wU_sub h)
  have hown : s.vm.findClass RL = some m.cls := hown
  have hA : ∀ q : Nat, s.heap.size ≤ q → nw s.heap.size q := fun _ h => h
  have hbA : ¬ nw s.heap.size b := Nat.not_le.mpr hbl
  refine lv_aload_n hx hb dL_law_943 rfl (lv_at hl 3 rfl) ?_
  refine lv_aload_n hx hb dL_law_944 rfl (lv_at hl 4 rfl) ?_
  refine lv_iload hx hb dL_law_945 (lv_at hl 0 rfl) ?_
  refine lv_iconst (v := 1) hx hb dL_law_947 (by decide) ?_
  refine lv_iadd hx hb dL_law_948 ?_
  refine va_sld hx hb hX hbl hbA hS in_1 dL_law_949 ?_
  refine lv_aload_n hx hb dL_law_950 rfl (lv_at hl 1 rfl) ?_
  refine va_calli (vx_runSW (As := [.ref qx, .int (xs ((0 : Int32) + 1).toNatClampNeg), .ref qo]) (rest := []) ⟨hx, hb, hml, hown, hu⟩ (w_L_back l hst dC dI qx _ qo fs (xs ((0 : Int32) + 1).toNatClampNeg) hf) (vx_cwSW 3 hu (gS u733 u734 u653 u735) rfl rfl rfl (by decide +kernel) ⟨(Nat.le_of_ble_eq_true rfl), (Nat.le_of_ble_eq_true rfl)⟩) ⟨tQ_blind, tQ_at hPx hK hev hdv (hZ.grown hS.1 hS.2.1)⟩ rfl rfl hl.1 rfl (lv_room (Nat.le_of_ble_eq_true rfl)) dL_law_951 ⟨(Nat.le_of_ble_eq_true rfl), (Nat.le_of_ble_eq_true rfl)⟩) hS (fun q hq h => absurd h (Nat.not_le.mpr hq)) (fun q h => Nat.le_trans hS.1 h) (fun r1 u9 t H locs ht hvm hw hB hz1 hk1 hS => ?_)
  have hw : r1 = 1 := hw
  subst hw
  have hPm := px_kept hPm (fun a ha => hk1 a ha (Nat.not_le.mpr ha))
  refine W.widen (k := 341) (n := 146687) (Nat.le_of_ble_eq_true rfl) (Nat.le_of_ble_eq_true rfl) ?_
  refine lv_istore (lv' := [(5, .int 1), (4, .int 0), (3, .ref qo), (2, .ref qm), (1, .ref qx), (0, .ref b)]) hx hb dL_law_954 hl (by decide) rfl (fun ls hl => ?_)
  refine lv_aload_n hx hb dL_law_956 rfl (lv_at hl 3 rfl) ?_
  refine lv_aload_n hx hb dL_law_957 rfl (lv_at hl 5 rfl) ?_
  refine lv_iload hx hb dL_law_958 (lv_at hl 1 rfl) ?_
  refine lv_iconst (v := 1) hx hb dL_law_960 (by decide) ?_
  refine lv_iadd hx hb dL_law_961 ?_
  refine va_sld hx hb hX hbl hbA hS in_1 dL_law_962 ?_
  have hFc := va_free (wc := [(qm, .inr (15, ms))]) hDm hS hA [0] rfl
  refine va_calli (va_runV (As := [.int (xs ((0 : Int32) + 1).toNatClampNeg)]) (rest := []) ⟨hx, hb, hml, hown, hu⟩ (m_X15_back l dC dI qm _ ms (xs ((0 : Int32) + 1).toNatClampNeg) hm) (cwV 1 hu (gV u736 u737 u738 u236 u739) rfl rfl rfl (by decide +kernel) ⟨(Nat.le_of_ble_eq_true rfl), (Nat.le_of_ble_eq_true rfl)⟩) ⟨mP_blind, va_recv hK hPm (ci := 15) (q0 := 0) rfl rfl, mP_at hPm hK hDm⟩ rfl rfl hl.1 rfl (lv_room (Nat.le_of_ble_eq_true rfl)) dL_law_963 ⟨(Nat.le_of_ble_eq_true rfl), (Nat.le_of_ble_eq_true rfl)⟩) hS (fun q _ h => hFc q h) hFc (fun r2 u9 t H locs ht hvm hw hB hz1 hk1 hS => ?_)
  have hw : r2 = 0 := hw
  subst hw
  have hPm : va_P (dC, dI) clx [(qm, .inr (15, (ms.set 0 (.int 1))))] t.heap := hB
  rw [ht] at hPm
  have hDm : va_D (nw s.heap.size) [(qm, .inr (15, (ms.set 0 (.int 1))))] := hDm.set (p := 0) rfl
  refine lv_istore (lv' := [(6, .int 0), (5, .int 1), (4, .int 0), (3, .ref qo), (2, .ref qm), (1, .ref qx), (0, .ref b)]) hx hb dL_law_966 hl (by decide) rfl (fun ls hl => ?_)
  refine lv_aload_n hx hb dL_law_968 rfl (lv_at hl 4 rfl) ?_
  refine va_calli (va_runV (As := []) (rest := []) ⟨hx, hb, hml, hown, hu⟩ (r_X15_thrown l dC dI qm _ (ms.set 0 (.int 1)) 1 (List.getElem?_set_self (by rw [hm.2.2.2.2.2]; decide))) (cwV 0 hu (gV u659 u660 u661 u236 u662) rfl rfl rfl (by decide +kernel) ⟨(Nat.le_of_ble_eq_true rfl), (Nat.le_of_ble_eq_true rfl)⟩) ⟨mP_blind, va_recv hK hPm (ci := 15) (q0 := 0) rfl rfl, mP_at hPm hK hDm⟩ rfl rfl hl.1 rfl (lv_room (Nat.le_of_ble_eq_true rfl)) dL_law_969 ⟨(Nat.le_of_ble_eq_true rfl), (Nat.le_of_ble_eq_true rfl)⟩) hS (fun q hq h => absurd h (Nat.not_le.mpr hq)) (fun q h => Nat.le_trans hS.1 h) (fun r3 u9 t H locs ht hvm hw hB hz1 hk1 hS => ?_)
  have hw : r3 = 1 := hw
  subst hw
  refine lv_iload hx hb dL_law_972 (lv_at hl 1 rfl) ?_
  refine lv_icmp_eq (tgt := 979) hx hb dL_law_974 (by decide) (fun _ => ?_) (fun h9 => absurd (by decide) h9)
  refine lv_iload hx hb dL_law_979 (lv_at hl 1 rfl) ?_
  refine lv_if_ne (tgt := 996) hx hb dL_law_981 (by decide) (fun _ => ?_) (fun h9 => absurd h9 (by decide))
  refine lv_goto (tgt := 1833) hx hb dL_law_996 (by decide) ?_
  exact law_next l C0 (Nat.le_of_ble_eq_true rfl) (Nat.le_of_ble_eq_true rfl) hS (lv_sub hl [2, 6] rfl)
set_option maxHeartbeats 4000000 in
set_option maxRecDepth 100000 in
theorem law_backAt {p : Program} {e : Env} {s : State} {m : MethodId} {below : List Frame} {meth : Method} {c : Code} (l : Launch) (hst : l.stackTraces = false) {b : Nat} {xs : Nat → Int32} (C0 : lw_At p s m meth c b 4 xs) (hev : ev s) (hdv : dv s) (hZ : zz s.heap.size s s.heap) {dC : Nat → ClassId} {dI : Nat → Nat → Nat} {qx qm qo : Nat} {fs ms : List Value} {H : Heap} (hf : xF fs) (hm : mF ms) (hK : va_K (dC, dI) clx [] s) (hPx : va_P (dC, dI) clx [(qx, .inr (11, fs))] H) (hPm : va_P (dC, dI) clx [(qm, .inr (15, ms))] H) (hDm : va_D (nw s.heap.size) [(qm, .inr (15, ms))]) {locs : List Loc} (hS : va_S (nw s.heap.size) s.heap H locs) {ls : Array Slot} (hl : lv_has ls 8 [(4, .int 0), (3, .ref qo), (2, .ref qm), (1, .ref qx), (0, .ref b)]) : W p l e room_1 s m #[Value.ref b] below meth c H locs 340 146681 (lw_Z below #[Value.ref b] s) (F0 m 999 ls []) := by
  obtain ⟨hx, hb, hr, hml, hown, hts, hX, hbl, hlocks, hgv⟩ := id C0
  have hu : ∀ w ∈ wU, w.before #[Value.ref b] s = true := fun w h => hts w (wU_sub h)
  have hown : s.vm.findClass RL = some m.cls := hown
  have hA : ∀ q : Nat, s.heap.size ≤ q → nw s.heap.size q := fun _ h => h
  have hbA : ¬ nw s.heap.size b := Nat.not_le.mpr hbl
  refine lv_aload_n hx hb dL_law_999 rfl (lv_at hl 3 rfl) ?_
  refine lv_aload_n hx hb dL_law_1000 rfl (lv_at hl 4 rfl) ?_
  refine lv_iload hx hb dL_law_1001 (lv_at hl 0 rfl) ?_
  refine lv_iconst (v := 1) hx hb dL_law_1003 (by decide) ?_
  refine lv_iadd hx hb dL_law_1004 ?_
  refine va_sld hx hb hX hbl hbA hS in_1 dL_law_1005 ?_
  refine lv_aload_n hx hb dL_law_1006 rfl (lv_at hl 4 rfl) ?_
  refine lv_iload hx hb dL_law_1007 (lv_at hl 0 rfl) ?_
  refine lv_iconst (v := 2) hx hb dL_law_1009 (by decide) ?_
  refine lv_iadd hx hb dL_law_1010 ?_
  refine va_sld hx hb hX hbl hbA hS in_2 dL_law_1011 ?_
  refine lv_aload_n hx hb dL_law_1012 rfl (lv_at hl 1 rfl) ?_
  refine va_calli (vx_runSW (As := [.ref qx, .int (xs ((0 : Int32) + 1).toNatClampNeg), .int (xs ((0 : Int32) + 2).toNatClampNeg), .ref qo]) (rest := []) ⟨hx, hb, hml, hown, hu⟩ (w_L_backAt l hst dC dI qx _ qo fs (xs ((0 : Int32) + 1).toNatClampNeg) (xs ((0 : Int32) + 2).toNatClampNeg) hf) (vx_cwSW 4 hu (gS u740 u741 u653 u742) rfl rfl rfl (by decide +kernel) ⟨(Nat.le_of_ble_eq_true rfl), (Nat.le_of_ble_eq_true rfl)⟩) ⟨tQ_blind, tQ_at hPx hK hev hdv (hZ.grown hS.1 hS.2.1)⟩ rfl rfl hl.1 rfl (lv_room (Nat.le_of_ble_eq_true rfl)) dL_law_1013 ⟨(Nat.le_of_ble_eq_true rfl), (Nat.le_of_ble_eq_true rfl)⟩) hS (fun q hq h => absurd h (Nat.not_le.mpr hq)) (fun q h => Nat.le_trans hS.1 h) (fun r1 u9 t H locs ht hvm hw hB hz1 hk1 hS => ?_)
  have hw : r1 = 1 := hw
  subst hw
  have hPm := px_kept hPm (fun a ha => hk1 a ha (Nat.not_le.mpr ha))
  refine W.widen (k := 341) (n := 146687) (Nat.le_of_ble_eq_true rfl) (Nat.le_of_ble_eq_true rfl) ?_
  refine lv_istore (lv' := [(5, .int 1), (4, .int 0), (3, .ref qo), (2, .ref qm), (1, .ref qx), (0, .ref b)]) hx hb dL_law_1016 hl (by decide) rfl (fun ls hl => ?_)
  refine lv_aload_n hx hb dL_law_1018 rfl (lv_at hl 3 rfl) ?_
  refine lv_aload_n hx hb dL_law_1019 rfl (lv_at hl 5 rfl) ?_
  refine lv_iload hx hb dL_law_1020 (lv_at hl 1 rfl) ?_
  refine lv_iconst (v := 1) hx hb dL_law_1022 (by decide) ?_
  refine lv_iadd hx hb dL_law_1023 ?_
  refine va_sld hx hb hX hbl hbA hS in_1 dL_law_1024 ?_
  refine lv_aload_n hx hb dL_law_1025 rfl (lv_at hl 5 rfl) ?_
  refine lv_iload hx hb dL_law_1026 (lv_at hl 1 rfl) ?_
  refine lv_iconst (v := 2) hx hb dL_law_1028 (by decide) ?_
  refine lv_iadd hx hb dL_law_1029 ?_
  refine va_sld hx hb hX hbl hbA hS in_2 dL_law_1030 ?_
  have hFc := va_free (wc := [(qm, .inr (15, ms))]) hDm hS hA [0] rfl
  refine va_calli (va_runV (As := [.int (xs ((0 : Int32) + 1).toNatClampNeg), .int (xs ((0 : Int32) + 2).toNatClampNeg)]) (rest := []) ⟨hx, hb, hml, hown, hu⟩ (m_X15_backAt l dC dI qm _ ms (xs ((0 : Int32) + 1).toNatClampNeg) (xs ((0 : Int32) + 2).toNatClampNeg) hm) (cwV 2 hu (gV u743 u744 u745 u236 u746) rfl rfl rfl (by decide +kernel) ⟨(Nat.le_of_ble_eq_true rfl), (Nat.le_of_ble_eq_true rfl)⟩) ⟨mP_blind, va_recv hK hPm (ci := 15) (q0 := 0) rfl rfl, mP_at hPm hK hDm⟩ rfl rfl hl.1 rfl (lv_room (Nat.le_of_ble_eq_true rfl)) dL_law_1031 ⟨(Nat.le_of_ble_eq_true rfl), (Nat.le_of_ble_eq_true rfl)⟩) hS (fun q _ h => hFc q h) hFc (fun r2 u9 t H locs ht hvm hw hB hz1 hk1 hS => ?_)
  have hw : r2 = 0 := hw
  subst hw
  have hPm : va_P (dC, dI) clx [(qm, .inr (15, (ms.set 0 (.int 1))))] t.heap := hB
  rw [ht] at hPm
  have hDm : va_D (nw s.heap.size) [(qm, .inr (15, (ms.set 0 (.int 1))))] := hDm.set (p := 0) rfl
  refine lv_istore (lv' := [(6, .int 0), (5, .int 1), (4, .int 0), (3, .ref qo), (2, .ref qm), (1, .ref qx), (0, .ref b)]) hx hb dL_law_1034 hl (by decide) rfl (fun ls hl => ?_)
  refine lv_aload_n hx hb dL_law_1036 rfl (lv_at hl 4 rfl) ?_
  refine va_calli (va_runV (As := []) (rest := []) ⟨hx, hb, hml, hown, hu⟩ (r_X15_thrown l dC dI qm _ (ms.set 0 (.int 1)) 1 (List.getElem?_set_self (by rw [hm.2.2.2.2.2]; decide))) (cwV 0 hu (gV u659 u660 u661 u236 u662) rfl rfl rfl (by decide +kernel) ⟨(Nat.le_of_ble_eq_true rfl), (Nat.le_of_ble_eq_true rfl)⟩) ⟨mP_blind, va_recv hK hPm (ci := 15) (q0 := 0) rfl rfl, mP_at hPm hK hDm⟩ rfl rfl hl.1 rfl (lv_room (Nat.le_of_ble_eq_true rfl)) dL_law_1037 ⟨(Nat.le_of_ble_eq_true rfl), (Nat.le_of_ble_eq_true rfl)⟩) hS (fun q hq h => absurd h (Nat.not_le.mpr hq)) (fun q h => Nat.le_trans hS.1 h) (fun r3 u9 t H locs ht hvm hw hB hz1 hk1 hS => ?_)
  have hw : r3 = 1 := hw
  subst hw
  refine lv_iload hx hb dL_law_1040 (lv_at hl 1 rfl) ?_
  refine lv_icmp_eq (tgt := 1047) hx hb dL_law_1042 (by decide) (fun _ => ?_) (fun h9 => absurd (by decide) h9)
  refine lv_iload hx hb dL_law_1047 (lv_at hl 1 rfl) ?_
  refine lv_if_ne (tgt := 1064) hx hb dL_law_1049 (by decide) (fun _ => ?_) (fun h9 => absurd h9 (by decide))
  refine lv_goto (tgt := 1833) hx hb dL_law_1064 (by decide) ?_
  exact law_next l C0 (Nat.le_of_ble_eq_true rfl) (Nat.le_of_ble_eq_true rfl) hS (lv_sub hl [2, 6] rfl)
set_option maxHeartbeats 4000000 in
set_option maxRecDepth 100000 in
theorem law_search {p : Program} {e : Env} {s : State} {m : MethodId} {below : List Frame} {meth : Method} {c : Code} (l : Launch) (hst : l.stackTraces = false) {b : Nat} {xs : Nat → Int32} (C0 : lw_At p s m meth c b 4 xs) (hev : ev s) (hdv : dv s) (hZ : zz s.heap.size s s.heap) {dC : Nat → ClassId} {dI : Nat → Nat → Nat} {qx qm qo : Nat} {fs ms : List Value} {H : Heap} (hf : xF fs) (hm : mF ms) (hK : va_K (dC, dI) clx [] s) (hPx : va_P (dC, dI) clx [(qx, .inr (11, fs))] H) (hPm : va_P (dC, dI) clx [(qm, .inr (15, ms))] H) (hDm : va_D (nw s.heap.size) [(qm, .inr (15, ms))]) {locs : List Loc} (hS : va_S (nw s.heap.size) s.heap H locs) {ls : Array Slot} (hl : lv_has ls 8 [(4, .int 0), (3, .ref qo), (2, .ref qm), (1, .ref qx), (0, .ref b)]) : W p l e room_1 s m #[Value.ref b] below meth c H locs 340 146681 (lw_Z below #[Value.ref b] s) (F0 m 1067 ls []) := by
  obtain ⟨hx, hb, hr, hml, hown, hts, hX, hbl, hlocks, hgv⟩ := id C0
  have hu : ∀ w ∈ wU, w.before #[Value.ref b] s = true := fun w h => hts w (wU_sub h)
  have hown : s.vm.findClass RL = some m.cls := hown
  have hA : ∀ q : Nat, s.heap.size ≤ q → nw s.heap.size q := fun _ h => h
  have hbA : ¬ nw s.heap.size b := Nat.not_le.mpr hbl
  refine lv_aload_n hx hb dL_law_1067 rfl (lv_at hl 3 rfl) ?_
  refine lv_aload_n hx hb dL_law_1068 rfl (lv_at hl 4 rfl) ?_
  refine lv_iload hx hb dL_law_1069 (lv_at hl 0 rfl) ?_
  refine lv_iconst (v := 1) hx hb dL_law_1071 (by decide) ?_
  refine lv_iadd hx hb dL_law_1072 ?_
  refine va_sld hx hb hX hbl hbA hS in_1 dL_law_1073 ?_
  refine lv_aload_n hx hb dL_law_1074 rfl (lv_at hl 4 rfl) ?_
  refine lv_iload hx hb dL_law_1075 (lv_at hl 0 rfl) ?_
  refine lv_iconst (v := 2) hx hb dL_law_1077 (by decide) ?_
  refine lv_iadd hx hb dL_law_1078 ?_
  refine va_sld hx hb hX hbl hbA hS in_2 dL_law_1079 ?_
  refine lv_aload_n hx hb dL_law_1080 rfl (lv_at hl 1 rfl) ?_
  refine va_calli (vx_runSW (As := [.ref qx, .int (xs ((0 : Int32) + 1).toNatClampNeg), .int (xs ((0 : Int32) + 2).toNatClampNeg), .ref qo]) (rest := []) ⟨hx, hb, hml, hown, hu⟩ (w_L_search l hst dC dI qx _ qo fs (xs ((0 : Int32) + 1).toNatClampNeg) (xs ((0 : Int32) + 2).toNatClampNeg) hf) (vx_cwSW 4 hu (gS u747 u748 u653 u749) rfl rfl rfl (by decide +kernel) ⟨(Nat.le_of_ble_eq_true rfl), (Nat.le_of_ble_eq_true rfl)⟩) ⟨tQ_blind, tQ_at hPx hK hev hdv (hZ.grown hS.1 hS.2.1)⟩ rfl rfl hl.1 rfl (lv_room (Nat.le_of_ble_eq_true rfl)) dL_law_1081 ⟨(Nat.le_of_ble_eq_true rfl), (Nat.le_of_ble_eq_true rfl)⟩) hS (fun q hq h => absurd h (Nat.not_le.mpr hq)) (fun q h => Nat.le_trans hS.1 h) (fun r1 u9 t H locs ht hvm hw hB hz1 hk1 hS => ?_)
  have hw : r1 = 1 := hw
  subst hw
  have hPm := px_kept hPm (fun a ha => hk1 a ha (Nat.not_le.mpr ha))
  refine W.widen (k := 341) (n := 146687) (Nat.le_of_ble_eq_true rfl) (Nat.le_of_ble_eq_true rfl) ?_
  refine lv_istore (lv' := [(5, .int 1), (4, .int 0), (3, .ref qo), (2, .ref qm), (1, .ref qx), (0, .ref b)]) hx hb dL_law_1084 hl (by decide) rfl (fun ls hl => ?_)
  refine lv_aload_n hx hb dL_law_1086 rfl (lv_at hl 3 rfl) ?_
  refine lv_aload_n hx hb dL_law_1087 rfl (lv_at hl 5 rfl) ?_
  refine lv_iload hx hb dL_law_1088 (lv_at hl 1 rfl) ?_
  refine lv_iconst (v := 1) hx hb dL_law_1090 (by decide) ?_
  refine lv_iadd hx hb dL_law_1091 ?_
  refine va_sld hx hb hX hbl hbA hS in_1 dL_law_1092 ?_
  refine lv_aload_n hx hb dL_law_1093 rfl (lv_at hl 5 rfl) ?_
  refine lv_iload hx hb dL_law_1094 (lv_at hl 1 rfl) ?_
  refine lv_iconst (v := 2) hx hb dL_law_1096 (by decide) ?_
  refine lv_iadd hx hb dL_law_1097 ?_
  refine va_sld hx hb hX hbl hbA hS in_2 dL_law_1098 ?_
  have hFc := va_free (wc := [(qm, .inr (15, ms))]) hDm hS hA [0] rfl
  refine va_calli (va_runV (As := [.int (xs ((0 : Int32) + 1).toNatClampNeg), .int (xs ((0 : Int32) + 2).toNatClampNeg)]) (rest := []) ⟨hx, hb, hml, hown, hu⟩ (m_X15_search l dC dI qm _ ms (xs ((0 : Int32) + 1).toNatClampNeg) (xs ((0 : Int32) + 2).toNatClampNeg) hm) (cwV 2 hu (gV u750 u751 u752 u236 u753) rfl rfl rfl (by decide +kernel) ⟨(Nat.le_of_ble_eq_true rfl), (Nat.le_of_ble_eq_true rfl)⟩) ⟨mP_blind, va_recv hK hPm (ci := 15) (q0 := 0) rfl rfl, mP_at hPm hK hDm⟩ rfl rfl hl.1 rfl (lv_room (Nat.le_of_ble_eq_true rfl)) dL_law_1099 ⟨(Nat.le_of_ble_eq_true rfl), (Nat.le_of_ble_eq_true rfl)⟩) hS (fun q _ h => hFc q h) hFc (fun r2 u9 t H locs ht hvm hw hB hz1 hk1 hS => ?_)
  have hw : r2 = 0 := hw
  subst hw
  have hPm : va_P (dC, dI) clx [(qm, .inr (15, (ms.set 0 (.int 1))))] t.heap := hB
  rw [ht] at hPm
  have hDm : va_D (nw s.heap.size) [(qm, .inr (15, (ms.set 0 (.int 1))))] := hDm.set (p := 0) rfl
  refine lv_istore (lv' := [(6, .int 0), (5, .int 1), (4, .int 0), (3, .ref qo), (2, .ref qm), (1, .ref qx), (0, .ref b)]) hx hb dL_law_1102 hl (by decide) rfl (fun ls hl => ?_)
  refine lv_aload_n hx hb dL_law_1104 rfl (lv_at hl 4 rfl) ?_
  refine va_calli (va_runV (As := []) (rest := []) ⟨hx, hb, hml, hown, hu⟩ (r_X15_thrown l dC dI qm _ (ms.set 0 (.int 1)) 1 (List.getElem?_set_self (by rw [hm.2.2.2.2.2]; decide))) (cwV 0 hu (gV u659 u660 u661 u236 u662) rfl rfl rfl (by decide +kernel) ⟨(Nat.le_of_ble_eq_true rfl), (Nat.le_of_ble_eq_true rfl)⟩) ⟨mP_blind, va_recv hK hPm (ci := 15) (q0 := 0) rfl rfl, mP_at hPm hK hDm⟩ rfl rfl hl.1 rfl (lv_room (Nat.le_of_ble_eq_true rfl)) dL_law_1105 ⟨(Nat.le_of_ble_eq_true rfl), (Nat.le_of_ble_eq_true rfl)⟩) hS (fun q hq h => absurd h (Nat.not_le.mpr hq)) (fun q h => Nat.le_trans hS.1 h) (fun r3 u9 t H locs ht hvm hw hB hz1 hk1 hS => ?_)
  have hw : r3 = 1 := hw
  subst hw
  refine lv_iload hx hb dL_law_1108 (lv_at hl 1 rfl) ?_
  refine lv_icmp_eq (tgt := 1115) hx hb dL_law_1110 (by decide) (fun _ => ?_) (fun h9 => absurd (by decide) h9)
  refine lv_iload hx hb dL_law_1115 (lv_at hl 1 rfl) ?_
  refine lv_if_ne (tgt := 1132) hx hb dL_law_1117 (by decide) (fun _ => ?_) (fun h9 => absurd h9 (by decide))
  refine lv_goto (tgt := 1833) hx hb dL_law_1132 (by decide) ?_
  exact law_next l C0 (Nat.le_of_ble_eq_true rfl) (Nat.le_of_ble_eq_true rfl) hS (lv_sub hl [2, 6] rfl)
