set_option maxHeartbeats 4000000 in
set_option maxRecDepth 100000 in
theorem law_found {p : Program} {e : Env} {s : State} {m : MethodId} {below : List Frame} {meth : Method} {c : Code} (l : Launch) (hst : l.stackTraces = false) {b : Nat} {xs : Nat → Int32} (C0 : lw_At p s m meth c b 4 xs) (hev : ev s) (hdv : dv s) (hZ : zz s.heap.size s s.heap) {dC : Nat → ClassId} {dI : Nat → Nat → Nat} {qx qm qo : Nat} {fs ms : List Value} {H : Heap} (hf : xF fs) (hm : mF ms) (hK : va_K (dC, dI) clx [] s) (hPx : va_P (dC, dI) clx [(qx, .inr (11, fs))] H) (hPm : va_P (dC, dI) clx [(qm, .inr (15, ms))] H) (hDm : va_D (nw s.heap.size) [(qm, .inr (15, ms))]) {f8 : List Value} {q8 : Nat} (hq8 : fs[10]? = some (.ref q8)) (hf8 : f8[3]? = some (.int 0)) (hP8 : va_P (dC, dI) clx [(qx, .inr (11, fs)), (q8, .inr (8, f8))] H) {locs : List Loc} (hS : va_S (nw s.heap.size) s.heap H locs) {ls : Array Slot} (hl : lv_has ls 8 [(4, .int 0), (3, .ref qo), (2, .ref qm), (1, .ref qx), (0, .ref b)]) : W p l e room_1 s m #[Value.ref b] below meth c H locs 340 146681 (lw_Z below #[Value.ref b] s) (F0 m 1135 ls []) := by
  obtain ⟨hx, hb, hr, hml, hown, hts, hX, hbl, hlocks, hgv⟩ := id C0
  have hu : ∀ w ∈ wU, w.before #[Value.ref b] s = true := fun w h => hts w (wU_sub h)
  have hown : s.vm.findClass RL = some m.cls := hown
  have hA : ∀ q : Nat, s.heap.size ≤ q → nw s.heap.size q := fun _ h => h
  have hbA : ¬ nw s.heap.size b := Nat.not_le.mpr hbl
  refine lv_aload_n hx hb dL_law_1135 rfl (lv_at hl 3 rfl) ?_
  refine lv_aload_n hx hb dL_law_1136 rfl (lv_at hl 4 rfl) ?_
  refine lv_iload hx hb dL_law_1137 (lv_at hl 0 rfl) ?_
  refine lv_iconst (v := 1) hx hb dL_law_1139 (by decide) ?_
  refine lv_iadd hx hb dL_law_1140 ?_
  refine va_sld hx hb hX hbl hbA hS in_1 dL_law_1141 ?_
  refine lv_aload_n hx hb dL_law_1142 rfl (lv_at hl 4 rfl) ?_
  refine lv_iload hx hb dL_law_1143 (lv_at hl 0 rfl) ?_
  refine lv_iconst (v := 2) hx hb dL_law_1145 (by decide) ?_
  refine lv_iadd hx hb dL_law_1146 ?_
  refine va_sld hx hb hX hbl hbA hS in_2 dL_law_1147 ?_
  refine lv_aload_n hx hb dL_law_1148 rfl (lv_at hl 1 rfl) ?_
  refine va_calli (vx_runSW (As := [.ref qx, .int (xs ((0 : Int32) + 1).toNatClampNeg), .int (xs ((0 : Int32) + 2).toNatClampNeg), .ref qo]) (rest := []) ⟨hx, hb, hml, hown, hu⟩ (w_L_found l hst dC dI qx _ qo fs f8 q8 (xs ((0 : Int32) + 1).toNatClampNeg) (xs ((0 : Int32) + 2).toNatClampNeg) hf hq8 hf8) (vx_cwSW 4 hu (gS u754 u755 u653 u756) rfl rfl rfl (by decide +kernel) ⟨(Nat.le_of_ble_eq_true rfl), (Nat.le_of_ble_eq_true rfl)⟩) ⟨tQ_blind, tQ_at hP8 hK hev hdv (hZ.grown hS.1 hS.2.1)⟩ rfl rfl hl.1 rfl (lv_room (Nat.le_of_ble_eq_true rfl)) dL_law_1149 ⟨(Nat.le_of_ble_eq_true rfl), (Nat.le_of_ble_eq_true rfl)⟩) hS (fun q hq h => absurd h (Nat.not_le.mpr hq)) (fun q h => Nat.le_trans hS.1 h) (fun r1 u9 t H locs ht hvm hw hB hz1 hk1 hS => ?_)
  have hw : r1 = 1 := hw
  subst hw
  have hPm := px_kept hPm (fun a ha => hk1 a ha (Nat.not_le.mpr ha))
  refine W.widen (k := 341) (n := 146687) (Nat.le_of_ble_eq_true rfl) (Nat.le_of_ble_eq_true rfl) ?_
  refine lv_istore (lv' := [(5, .int 1), (4, .int 0), (3, .ref qo), (2, .ref qm), (1, .ref qx), (0, .ref b)]) hx hb dL_law_1152 hl (by decide) rfl (fun ls hl => ?_)
  refine lv_aload_n hx hb dL_law_1154 rfl (lv_at hl 3 rfl) ?_
  refine lv_aload_n hx hb dL_law_1155 rfl (lv_at hl 5 rfl) ?_
  refine lv_iload hx hb dL_law_1156 (lv_at hl 1 rfl) ?_
  refine lv_iconst (v := 1) hx hb dL_law_1158 (by decide) ?_
  refine lv_iadd hx hb dL_law_1159 ?_
  refine va_sld hx hb hX hbl hbA hS in_1 dL_law_1160 ?_
  refine lv_aload_n hx hb dL_law_1161 rfl (lv_at hl 5 rfl) ?_
  refine lv_iload hx hb dL_law_1162 (lv_at hl 1 rfl) ?_
  refine lv_iconst (v := 2) hx hb dL_law_1164 (by decide) ?_
  refine lv_iadd hx hb dL_law_1165 ?_
  refine va_sld hx hb hX hbl hbA hS in_2 dL_law_1166 ?_
  have hFc := va_free (wc := [(qm, .inr (15, ms))]) hDm hS hA [0] rfl
  refine va_calll (va_runV (As := [.int (xs ((0 : Int32) + 1).toNatClampNeg), .int (xs ((0 : Int32) + 2).toNatClampNeg)]) (rest := []) ⟨hx, hb, hml, hown, hu⟩ (m_X15_found l dC dI qm _ ms (xs ((0 : Int32) + 1).toNatClampNeg) (xs ((0 : Int32) + 2).toNatClampNeg) hm) (cwV 2 hu (gV u757 u758 u759 u236 u760) rfl rfl rfl (by decide +kernel) ⟨(Nat.le_of_ble_eq_true rfl), (Nat.le_of_ble_eq_true rfl)⟩) ⟨mP_blind, va_recv hK hPm (ci := 15) (q0 := 0) rfl rfl, mP_at hPm hK hDm⟩ rfl rfl hl.1 rfl (lv_room (Nat.le_of_ble_eq_true rfl)) dL_law_1167 ⟨(Nat.le_of_ble_eq_true rfl), (Nat.le_of_ble_eq_true rfl)⟩) hS (fun q _ h => hFc q h) hFc (fun r2 u9 t H locs ht hvm hw hB hz1 hk1 hS => ?_)
  have hw : r2 = 0 := hw
  subst hw
  have hPm : va_P (dC, dI) clx [(qm, .inr (15, (ms.set 0 (.int 1))))] t.heap := hB
  rw [ht] at hPm
  have hDm : va_D (nw s.heap.size) [(qm, .inr (15, (ms.set 0 (.int 1))))] := hDm.set (p := 0) rfl
  refine lv_lstore (lv' := [(6, .long 0), (5, .int 1), (4, .int 0), (3, .ref qo), (2, .ref qm), (1, .ref qx), (0, .ref b)]) hx hb dL_law_1170 hl (by decide) rfl (fun ls hl => ?_)
  refine lv_aload_n hx hb dL_law_1172 rfl (lv_at hl 4 rfl) ?_
  refine va_calli (va_runV (As := []) (rest := []) ⟨hx, hb, hml, hown, hu⟩ (r_X15_thrown l dC dI qm _ (ms.set 0 (.int 1)) 1 (List.getElem?_set_self (by rw [hm.2.2.2.2.2]; decide))) (cwV 0 hu (gV u659 u660 u661 u236 u662) rfl rfl rfl (by decide +kernel) ⟨(Nat.le_of_ble_eq_true rfl), (Nat.le_of_ble_eq_true rfl)⟩) ⟨mP_blind, va_recv hK hPm (ci := 15) (q0 := 0) rfl rfl, mP_at hPm hK hDm⟩ rfl rfl hl.1 rfl (lv_room (Nat.le_of_ble_eq_true rfl)) dL_law_1173 ⟨(Nat.le_of_ble_eq_true rfl), (Nat.le_of_ble_eq_true rfl)⟩) hS (fun q hq h => absurd h (Nat.not_le.mpr hq)) (fun q h => Nat.le_trans hS.1 h) (fun r3 u9 t H locs ht hvm hw hB hz1 hk1 hS => ?_)
  have hw : r3 = 1 := hw
  subst hw
  refine lv_iload hx hb dL_law_1176 (lv_at hl 1 rfl) ?_
  refine lv_icmp_eq (tgt := 1183) hx hb dL_law_1178 (by decide) (fun _ => ?_) (fun h9 => absurd (by decide) h9)
  refine lv_iload hx hb dL_law_1183 (lv_at hl 1 rfl) ?_
  refine lv_if_ne (tgt := 1199) hx hb dL_law_1185 (by decide) (fun _ => ?_) (fun h9 => absurd h9 (by decide))
  refine lv_goto (tgt := 1833) hx hb dL_law_1199 (by decide) ?_
  exact law_next l C0 (Nat.le_of_ble_eq_true rfl) (Nat.le_of_ble_eq_true rfl) hS (lv_sub hl [2, 6] rfl)
set_option maxHeartbeats 4000000 in
set_option maxRecDepth 100000 in
theorem law_count {p : Program} {e : Env} {s : State} {m : MethodId} {below : List Frame} {meth : Method} {c : Code} (l : Launch) (hst : l.stackTraces = false) {b : Nat} {xs : Nat → Int32} (C0 : lw_At p s m meth c b 4 xs) (hev : ev s) (hdv : dv s) (hZ : zz s.heap.size s s.heap) {dC : Nat → ClassId} {dI : Nat → Nat → Nat} {qx qm qo : Nat} {fs ms : List Value} {H : Heap} (hf : xF fs) (hm : mF ms) (hK : va_K (dC, dI) clx [] s) (hPx : va_P (dC, dI) clx [(qx, .inr (11, fs))] H) (hPm : va_P (dC, dI) clx [(qm, .inr (15, ms))] H) (hDm : va_D (nw s.heap.size) [(qm, .inr (15, ms))]) {locs : List Loc} (hS : va_S (nw s.heap.size) s.heap H locs) {ls : Array Slot} (hl : lv_has ls 8 [(4, .int 0), (3, .ref qo), (2, .ref qm), (1, .ref qx), (0, .ref b)]) : W p l e room_1 s m #[Value.ref b] below meth c H locs 340 146681 (lw_Z below #[Value.ref b] s) (F0 m 1202 ls []) := by
  obtain ⟨hx, hb, hr, hml, hown, hts, hX, hbl, hlocks, hgv⟩ := id C0
  have hu : ∀ w ∈ wU, w.before #[Value.ref b] s = true := fun w h => hts w (wU_sub h)
  have hown : s.vm.findClass RL = some m.cls := hown
  have hA : ∀ q : Nat, s.heap.size ≤ q → nw s.heap.size q := fun _ h => h
  have hbA : ¬ nw s.heap.size b := Nat.not_le.mpr hbl
  refine lv_aload_n hx hb dL_law_1202 rfl (lv_at hl 3 rfl) ?_
  refine lv_aload_n hx hb dL_law_1203 rfl (lv_at hl 4 rfl) ?_
  refine lv_iload hx hb dL_law_1204 (lv_at hl 0 rfl) ?_
  refine lv_iconst (v := 1) hx hb dL_law_1206 (by decide) ?_
  refine lv_iadd hx hb dL_law_1207 ?_
  refine va_sld hx hb hX hbl hbA hS in_1 dL_law_1208 ?_
  refine lv_aload_n hx hb dL_law_1209 rfl (lv_at hl 1 rfl) ?_
  refine va_calli (vx_runSW (As := [.ref qx, .int (xs ((0 : Int32) + 1).toNatClampNeg), .ref qo]) (rest := []) ⟨hx, hb, hml, hown, hu⟩ (w_L_count l hst dC dI qx _ qo fs (xs ((0 : Int32) + 1).toNatClampNeg) hf) (vx_cwSW 3 hu (gS u761 u762 u653 u763) rfl rfl rfl (by decide +kernel) ⟨(Nat.le_of_ble_eq_true rfl), (Nat.le_of_ble_eq_true rfl)⟩) ⟨tQ_blind, tQ_at hPx hK hev hdv (hZ.grown hS.1 hS.2.1)⟩ rfl rfl hl.1 rfl (lv_room (Nat.le_of_ble_eq_true rfl)) dL_law_1210 ⟨(Nat.le_of_ble_eq_true rfl), (Nat.le_of_ble_eq_true rfl)⟩) hS (fun q hq h => absurd h (Nat.not_le.mpr hq)) (fun q h => Nat.le_trans hS.1 h) (fun r1 u9 t H locs ht hvm hw hB hz1 hk1 hS => ?_)
  have hw : r1 = 1 := hw
  subst hw
  have hPm := px_kept hPm (fun a ha => hk1 a ha (Nat.not_le.mpr ha))
  refine W.widen (k := 341) (n := 146687) (Nat.le_of_ble_eq_true rfl) (Nat.le_of_ble_eq_true rfl) ?_
  refine lv_istore (lv' := [(5, .int 1), (4, .int 0), (3, .ref qo), (2, .ref qm), (1, .ref qx), (0, .ref b)]) hx hb dL_law_1213 hl (by decide) rfl (fun ls hl => ?_)
  refine lv_aload_n hx hb dL_law_1215 rfl (lv_at hl 3 rfl) ?_
  refine lv_aload_n hx hb dL_law_1216 rfl (lv_at hl 5 rfl) ?_
  refine lv_iload hx hb dL_law_1217 (lv_at hl 1 rfl) ?_
  refine lv_iconst (v := 1) hx hb dL_law_1219 (by decide) ?_
  refine lv_iadd hx hb dL_law_1220 ?_
  refine va_sld hx hb hX hbl hbA hS in_1 dL_law_1221 ?_
  have hFc := va_free (wc := [(qm, .inr (15, ms))]) hDm hS hA [0] rfl
  refine va_calli (va_runV (As := [.int (xs ((0 : Int32) + 1).toNatClampNeg)]) (rest := []) ⟨hx, hb, hml, hown, hu⟩ (m_X15_count l dC dI qm _ ms (xs ((0 : Int32) + 1).toNatClampNeg) hm) (cwV 1 hu (gV u764 u765 u766 u236 u767) rfl rfl rfl (by decide +kernel) ⟨(Nat.le_of_ble_eq_true rfl), (Nat.le_of_ble_eq_true rfl)⟩) ⟨mP_blind, va_recv hK hPm (ci := 15) (q0 := 0) rfl rfl, mP_at hPm hK hDm⟩ rfl rfl hl.1 rfl (lv_room (Nat.le_of_ble_eq_true rfl)) dL_law_1222 ⟨(Nat.le_of_ble_eq_true rfl), (Nat.le_of_ble_eq_true rfl)⟩) hS (fun q _ h => hFc q h) hFc (fun r2 u9 t H locs ht hvm hw hB hz1 hk1 hS => ?_)
  have hw : r2 = 0 := hw
  subst hw
  have hPm : va_P (dC, dI) clx [(qm, .inr (15, (ms.set 0 (.int 1))))] t.heap := hB
  rw [ht] at hPm
  have hDm : va_D (nw s.heap.size) [(qm, .inr (15, (ms.set 0 (.int 1))))] := hDm.set (p := 0) rfl
  refine lv_istore (lv' := [(6, .int 0), (5, .int 1), (4, .int 0), (3, .ref qo), (2, .ref qm), (1, .ref qx), (0, .ref b)]) hx hb dL_law_1225 hl (by decide) rfl (fun ls hl => ?_)
  refine lv_aload_n hx hb dL_law_1227 rfl (lv_at hl 4 rfl) ?_
  refine va_calli (va_runV (As := []) (rest := []) ⟨hx, hb, hml, hown, hu⟩ (r_X15_thrown l dC dI qm _ (ms.set 0 (.int 1)) 1 (List.getElem?_set_self (by rw [hm.2.2.2.2.2]; decide))) (cwV 0 hu (gV u659 u660 u661 u236 u662) rfl rfl rfl (by decide +kernel) ⟨(Nat.le_of_ble_eq_true rfl), (Nat.le_of_ble_eq_true rfl)⟩) ⟨mP_blind, va_recv hK hPm (ci := 15) (q0 := 0) rfl rfl, mP_at hPm hK hDm⟩ rfl rfl hl.1 rfl (lv_room (Nat.le_of_ble_eq_true rfl)) dL_law_1228 ⟨(Nat.le_of_ble_eq_true rfl), (Nat.le_of_ble_eq_true rfl)⟩) hS (fun q hq h => absurd h (Nat.not_le.mpr hq)) (fun q h => Nat.le_trans hS.1 h) (fun r3 u9 t H locs ht hvm hw hB hz1 hk1 hS => ?_)
  have hw : r3 = 1 := hw
  subst hw
  refine lv_iload hx hb dL_law_1231 (lv_at hl 1 rfl) ?_
  refine lv_icmp_eq (tgt := 1238) hx hb dL_law_1233 (by decide) (fun _ => ?_) (fun h9 => absurd (by decide) h9)
  refine lv_iload hx hb dL_law_1238 (lv_at hl 1 rfl) ?_
  refine lv_if_ne (tgt := 1255) hx hb dL_law_1240 (by decide) (fun _ => ?_) (fun h9 => absurd h9 (by decide))
  refine lv_goto (tgt := 1833) hx hb dL_law_1255 (by decide) ?_
  exact law_next l C0 (Nat.le_of_ble_eq_true rfl) (Nat.le_of_ble_eq_true rfl) hS (lv_sub hl [2, 6] rfl)
set_option maxHeartbeats 4000000 in
set_option maxRecDepth 100000 in
theorem law_over {p : Program} {e : Env} {s : State} {m : MethodId} {below : List Frame} {meth : Method} {c : Code} (l : Launch) (hst : l.stackTraces = false) {b : Nat} {xs : Nat → Int32} (C0 : lw_At p s m meth c b 4 xs) (hev : ev s) (hdv : dv s) (hZ : zz s.heap.size s s.heap) {dC : Nat → ClassId} {dI : Nat → Nat → Nat} {qx qm qo : Nat} {fs ms : List Value} {H : Heap} (hf : xF fs) (hm : mF ms) (hK : va_K (dC, dI) clx [] s) (hPx : va_P (dC, dI) clx [(qx, .inr (11, fs))] H) (hPm : va_P (dC, dI) clx [(qm, .inr (15, ms))] H) (hDm : va_D (nw s.heap.size) [(qm, .inr (15, ms))]) {locs : List Loc} (hS : va_S (nw s.heap.size) s.heap H locs) {ls : Array Slot} (hl : lv_has ls 8 [(4, .int 0), (3, .ref qo), (2, .ref qm), (1, .ref qx), (0, .ref b)]) : W p l e room_1 s m #[Value.ref b] below meth c H locs 340 146681 (lw_Z below #[Value.ref b] s) (F0 m 1258 ls []) := by
  obtain ⟨hx, hb, hr, hml, hown, hts, hX, hbl, hlocks, hgv⟩ := id C0
  have hu : ∀ w ∈ wU, w.before #[Value.ref b] s = true := fun w h => hts w (wU_sub h)
  have hown : s.vm.findClass RL = some m.cls := hown
  have hA : ∀ q : Nat, s.heap.size ≤ q → nw s.heap.size q := fun _ h => h
  have hbA : ¬ nw s.heap.size b := Nat.not_le.mpr hbl
  refine lv_aload_n hx hb dL_law_1258 rfl (lv_at hl 3 rfl) ?_
  refine lv_aload_n hx hb dL_law_1259 rfl (lv_at hl 4 rfl) ?_
  refine lv_iload hx hb dL_law_1260 (lv_at hl 0 rfl) ?_
  refine lv_iconst (v := 1) hx hb dL_law_1262 (by decide) ?_
  refine lv_iadd hx hb dL_law_1263 ?_
  refine va_sld hx hb hX hbl hbA hS in_1 dL_law_1264 ?_
  refine lv_aload_n hx hb dL_law_1265 rfl (lv_at hl 4 rfl) ?_
  refine lv_iload hx hb dL_law_1266 (lv_at hl 0 rfl) ?_
  refine lv_iconst (v := 2) hx hb dL_law_1268 (by decide) ?_
  refine lv_iadd hx hb dL_law_1269 ?_
  refine va_sld hx hb hX hbl hbA hS in_2 dL_law_1270 ?_
  refine lv_aload_n hx hb dL_law_1271 rfl (lv_at hl 1 rfl) ?_
  refine va_calli (vx_runSW (As := [.ref qx, .int (xs ((0 : Int32) + 1).toNatClampNeg), .int (xs ((0 : Int32) + 2).toNatClampNeg), .ref qo]) (rest := []) ⟨hx, hb, hml, hown, hu⟩ (w_L_over l hst dC dI qx _ qo fs (xs ((0 : Int32) + 1).toNatClampNeg) (xs ((0 : Int32) + 2).toNatClampNeg) hf) (vx_cwSW 4 hu (gS u768 u769 u653 u770) rfl rfl rfl (by decide +kernel) ⟨(Nat.le_of_ble_eq_true rfl), (Nat.le_of_ble_eq_true rfl)⟩) ⟨tQ_blind, tQ_at hPx hK hev hdv (hZ.grown hS.1 hS.2.1)⟩ rfl rfl hl.1 rfl (lv_room (Nat.le_of_ble_eq_true rfl)) dL_law_1272 ⟨(Nat.le_of_ble_eq_true rfl), (Nat.le_of_ble_eq_true rfl)⟩) hS (fun q hq h => absurd h (Nat.not_le.mpr hq)) (fun q h => Nat.le_trans hS.1 h) (fun r1 u9 t H locs ht hvm hw hB hz1 hk1 hS => ?_)
  have hw : r1 = 1 := hw
  subst hw
  have hPm := px_kept hPm (fun a ha => hk1 a ha (Nat.not_le.mpr ha))
  refine W.widen (k := 341) (n := 146687) (Nat.le_of_ble_eq_true rfl) (Nat.le_of_ble_eq_true rfl) ?_
  refine lv_istore (lv' := [(5, .int 1), (4, .int 0), (3, .ref qo), (2, .ref qm), (1, .ref qx), (0, .ref b)]) hx hb dL_law_1275 hl (by decide) rfl (fun ls hl => ?_)
  refine lv_aload_n hx hb dL_law_1277 rfl (lv_at hl 3 rfl) ?_
  refine lv_aload_n hx hb dL_law_1278 rfl (lv_at hl 5 rfl) ?_
  refine lv_iload hx hb dL_law_1279 (lv_at hl 1 rfl) ?_
  refine lv_iconst (v := 1) hx hb dL_law_1281 (by decide) ?_
  refine lv_iadd hx hb dL_law_1282 ?_
  refine va_sld hx hb hX hbl hbA hS in_1 dL_law_1283 ?_
  refine lv_aload_n hx hb dL_law_1284 rfl (lv_at hl 5 rfl) ?_
  refine lv_iload hx hb dL_law_1285 (lv_at hl 1 rfl) ?_
  refine lv_iconst (v := 2) hx hb dL_law_1287 (by decide) ?_
  refine lv_iadd hx hb dL_law_1288 ?_
  refine va_sld hx hb hX hbl hbA hS in_2 dL_law_1289 ?_
  have hFc := va_free (wc := [(qm, .inr (15, ms))]) hDm hS hA [0] rfl
  refine va_calll (va_runV (As := [.int (xs ((0 : Int32) + 1).toNatClampNeg), .int (xs ((0 : Int32) + 2).toNatClampNeg)]) (rest := []) ⟨hx, hb, hml, hown, hu⟩ (m_X15_over l dC dI qm _ ms (xs ((0 : Int32) + 1).toNatClampNeg) (xs ((0 : Int32) + 2).toNatClampNeg) hm) (cwV 2 hu (gV u771 u772 u773 u236 u774) rfl rfl rfl (by decide +kernel) ⟨(Nat.le_of_ble_eq_true rfl), (Nat.le_of_ble_eq_true rfl)⟩) ⟨mP_blind, va_recv hK hPm (ci := 15) (q0 := 0) rfl rfl, mP_at hPm hK hDm⟩ rfl rfl hl.1 rfl (lv_room (Nat.le_of_ble_eq_true rfl)) dL_law_1290 ⟨(Nat.le_of_ble_eq_true rfl), (Nat.le_of_ble_eq_true rfl)⟩) hS (fun q _ h => hFc q h) hFc (fun r2 u9 t H locs ht hvm hw hB hz1 hk1 hS => ?_)
  have hw : r2 = 0 := hw
  subst hw
  have hPm : va_P (dC, dI) clx [(qm, .inr (15, (ms.set 0 (.int 1))))] t.heap := hB
  rw [ht] at hPm
  have hDm : va_D (nw s.heap.size) [(qm, .inr (15, (ms.set 0 (.int 1))))] := hDm.set (p := 0) rfl
  refine lv_lstore (lv' := [(6, .long 0), (5, .int 1), (4, .int 0), (3, .ref qo), (2, .ref qm), (1, .ref qx), (0, .ref b)]) hx hb dL_law_1293 hl (by decide) rfl (fun ls hl => ?_)
  refine lv_aload_n hx hb dL_law_1295 rfl (lv_at hl 4 rfl) ?_
  refine va_calli (va_runV (As := []) (rest := []) ⟨hx, hb, hml, hown, hu⟩ (r_X15_thrown l dC dI qm _ (ms.set 0 (.int 1)) 1 (List.getElem?_set_self (by rw [hm.2.2.2.2.2]; decide))) (cwV 0 hu (gV u659 u660 u661 u236 u662) rfl rfl rfl (by decide +kernel) ⟨(Nat.le_of_ble_eq_true rfl), (Nat.le_of_ble_eq_true rfl)⟩) ⟨mP_blind, va_recv hK hPm (ci := 15) (q0 := 0) rfl rfl, mP_at hPm hK hDm⟩ rfl rfl hl.1 rfl (lv_room (Nat.le_of_ble_eq_true rfl)) dL_law_1296 ⟨(Nat.le_of_ble_eq_true rfl), (Nat.le_of_ble_eq_true rfl)⟩) hS (fun q hq h => absurd h (Nat.not_le.mpr hq)) (fun q h => Nat.le_trans hS.1 h) (fun r3 u9 t H locs ht hvm hw hB hz1 hk1 hS => ?_)
  have hw : r3 = 1 := hw
  subst hw
  refine lv_iload hx hb dL_law_1299 (lv_at hl 1 rfl) ?_
  refine lv_icmp_eq (tgt := 1306) hx hb dL_law_1301 (by decide) (fun _ => ?_) (fun h9 => absurd (by decide) h9)
  refine lv_iload hx hb dL_law_1306 (lv_at hl 1 rfl) ?_
  refine lv_if_ne (tgt := 1322) hx hb dL_law_1308 (by decide) (fun _ => ?_) (fun h9 => absurd h9 (by decide))
  refine lv_goto (tgt := 1833) hx hb dL_law_1322 (by decide) ?_
  exact law_next l C0 (Nat.le_of_ble_eq_true rfl) (Nat.le_of_ble_eq_true rfl) hS (lv_sub hl [2, 6] rfl)
set_option maxHeartbeats 4000000 in
set_option maxRecDepth 100000 in
theorem law_list {p : Program} {e : Env} {s : State} {m : MethodId} {below : List Frame} {meth : Method} {c : Code} (l : Launch) (hst : l.stackTraces = false) {b : Nat} {xs : Nat → Int32} (C0 : lw_At p s m meth c b 4 xs) (hev : ev s) (hdv : dv s) (hZ : zz s.heap.size s s.heap) {dC : Nat → ClassId} {dI : Nat → Nat → Nat} {qx qm qo : Nat} {fs ms : List Value} {H : Heap} (hf : xF fs) (hm : mF ms) (hK : va_K (dC, dI) clx [] s) (hPx : va_P (dC, dI) clx [(qx, .inr (11, fs))] H) (hPm : va_P (dC, dI) clx [(qm, .inr (15, ms))] H) (hDm : va_D (nw s.heap.size) [(qm, .inr (15, ms))]) {locs : List Loc} (hS : va_S (nw s.heap.size) s.heap H locs) {ls : Array Slot} (hl : lv_has ls 8 [(4, .int 0), (3, .ref qo), (2, .ref qm), (1, .ref qx), (0, .ref b)]) : W p l e room_1 s m #[Value.ref b] below meth c H locs 340 146681 (lw_Z below #[Value.ref b] s) (F0 m 1325 ls []) := by
  obtain ⟨hx, hb, hr, hml, hown, hts, hX, hbl, hlocks, hgv⟩ := id C0
  have hu : ∀ w ∈ wU, w.before #[Value.ref b] s = true := fun w h => hts w (wU_sub h)
  have hown : s.vm.findClass RL = some m.cls := hown
  have hA : ∀ q : Nat, s.heap.size ≤ q → nw s.heap.size q := fun _ h => h
  have hbA : ¬ nw s.heap.size b := Nat.not_le.mpr hbl
  refine lv_aload_n hx hb dL_law_1325 rfl (lv_at hl 3 rfl) ?_
  refine lv_aload_n hx hb dL_law_1326 rfl (lv_at hl 4 rfl) ?_
  refine lv_iload hx hb dL_law_1327 (lv_at hl 0 rfl) ?_
  refine lv_iconst (v := 1) hx hb dL_law_1329 (by decide) ?_
  refine lv_iadd hx hb dL_law_1330 ?_
  refine va_sld hx hb hX hbl hbA hS in_1 dL_law_1331 ?_
  refine lv_aload_n hx hb dL_law_1332 rfl (lv_at hl 4 rfl) ?_
  refine lv_iload hx hb dL_law_1333 (lv_at hl 0 rfl) ?_
  refine lv_iconst (v := 2) hx hb dL_law_1335 (by decide) ?_
  refine lv_iadd hx hb dL_law_1336 ?_
  refine va_sld hx hb hX hbl hbA hS in_2 dL_law_1337 ?_
  refine lv_aload_n hx hb dL_law_1338 rfl (lv_at hl 1 rfl) ?_
  refine va_calli (vx_runSW (As := [.ref qx, .int (xs ((0 : Int32) + 1).toNatClampNeg), .int (xs ((0 : Int32) + 2).toNatClampNeg), .ref qo]) (rest := []) ⟨hx, hb, hml, hown, hu⟩ (w_L_list l hst dC dI qx _ qo fs (xs ((0 : Int32) + 1).toNatClampNeg) (xs ((0 : Int32) + 2).toNatClampNeg) hf) (vx_cwSW 4 hu (gS u775 u776 u653 u777) rfl rfl rfl (by decide +kernel) ⟨(Nat.le_of_ble_eq_true rfl), (Nat.le_of_ble_eq_true rfl)⟩) ⟨tQ_blind, tQ_at hPx hK hev hdv (hZ.grown hS.1 hS.2.1)⟩ rfl rfl hl.1 rfl (lv_room (Nat.le_of_ble_eq_true rfl)) dL_law_1339 ⟨(Nat.le_of_ble_eq_true rfl), (Nat.le_of_ble_eq_true rfl)⟩) hS (fun q hq h => absurd h (Nat.not_le.mpr hq)) (fun q h => Nat.le_trans hS.1 h) (fun r1 u9 t H locs ht hvm hw hB hz1 hk1 hS => ?_)
  have hw : r1 = 1 := hw
  subst hw
  have hPm := px_kept hPm (fun a ha => hk1 a ha (Nat.not_le.mpr ha))
  refine W.widen (k := 341) (n := 146687) (Nat.le_of_ble_eq_true rfl) (Nat.le_of_ble_eq_true rfl) ?_
  refine lv_istore (lv' := [(5, .int 1), (4, .int 0), (3, .ref qo), (2, .ref qm), (1, .ref qx), (0, .ref b)]) hx hb dL_law_1342 hl (by decide) rfl (fun ls hl => ?_)
  refine lv_aload_n hx hb dL_law_1344 rfl (lv_at hl 3 rfl) ?_
  refine lv_aload_n hx hb dL_law_1345 rfl (lv_at hl 5 rfl) ?_
  refine lv_iload hx hb dL_law_1346 (lv_at hl 1 rfl) ?_
  refine lv_iconst (v := 1) hx hb dL_law_1348 (by decide) ?_
  refine lv_iadd hx hb dL_law_1349 ?_
  refine va_sld hx hb hX hbl hbA hS in_1 dL_law_1350 ?_
  refine lv_aload_n hx hb dL_law_1351 rfl (lv_at hl 5 rfl) ?_
  refine lv_iload hx hb dL_law_1352 (lv_at hl 1 rfl) ?_
  refine lv_iconst (v := 2) hx hb dL_law_1354 (by decide) ?_
  refine lv_iadd hx hb dL_law_1355 ?_
  refine va_sld hx hb hX hbl hbA hS in_2 dL_law_1356 ?_
  have hFc := va_free (wc := [(qm, .inr (15, ms))]) hDm hS hA [0] rfl
  refine va_calli (va_runV (As := [.int (xs ((0 : Int32) + 1).toNatClampNeg), .int (xs ((0 : Int32) + 2).toNatClampNeg)]) (rest := []) ⟨hx, hb, hml, hown, hu⟩ (m_X15_list l dC dI qm _ ms (xs ((0 : Int32) + 1).toNatClampNeg) (xs ((0 : Int32) + 2).toNatClampNeg) hm) (cwV 2 hu (gV u778 u779 u780 u236 u781) rfl rfl rfl (by decide +kernel) ⟨(Nat.le_of_ble_eq_true rfl), (Nat.le_of_ble_eq_true rfl)⟩) ⟨mP_blind, va_recv hK hPm (ci := 15) (q0 := 0) rfl rfl, mP_at hPm hK hDm⟩ rfl rfl hl.1 rfl (lv_room (Nat.le_of_ble_eq_true rfl)) dL_law_1357 ⟨(Nat.le_of_ble_eq_true rfl), (Nat.le_of_ble_eq_true rfl)⟩) hS (fun q _ h => hFc q h) hFc (fun r2 u9 t H locs ht hvm hw hB hz1 hk1 hS => ?_)
  have hw : r2 = 0 := hw
  subst hw
  have hPm : va_P (dC, dI) clx [(qm, .inr (15, (ms.set 0 (.int 1))))] t.heap := hB
  rw [ht] at hPm
  have hDm : va_D (nw s.heap.size) [(qm, .inr (15, (ms.set 0 (.int 1))))] := hDm.set (p := 0) rfl
  refine lv_istore (lv' := [(6, .int 0), (5, .int 1), (4, .int 0), (3, .ref qo), (2, .ref qm), (1, .ref qx), (0, .ref b)]) hx hb dL_law_1360 hl (by decide) rfl (fun ls hl => ?_)
  refine lv_aload_n hx hb dL_law_1362 rfl (lv_at hl 4 rfl) ?_
  refine va_calli (va_runV (As := []) (rest := []) ⟨hx, hb, hml, hown, hu⟩ (r_X15_thrown l dC dI qm _ (ms.set 0 (.int 1)) 1 (List.getElem?_set_self (by rw [hm.2.2.2.2.2]; decide))) (cwV 0 hu (gV u659 u660 u661 u236 u662) rfl rfl rfl (by decide +kernel) ⟨(Nat.le_of_ble_eq_true rfl), (Nat.le_of_ble_eq_true rfl)⟩) ⟨mP_blind, va_recv hK hPm (ci := 15) (q0 := 0) rfl rfl, mP_at hPm hK hDm⟩ rfl rfl hl.1 rfl (lv_room (Nat.le_of_ble_eq_true rfl)) dL_law_1363 ⟨(Nat.le_of_ble_eq_true rfl), (Nat.le_of_ble_eq_true rfl)⟩) hS (fun q hq h => absurd h (Nat.not_le.mpr hq)) (fun q h => Nat.le_trans hS.1 h) (fun r3 u9 t H locs ht hvm hw hB hz1 hk1 hS => ?_)
  have hw : r3 = 1 := hw
  subst hw
  refine lv_iload hx hb dL_law_1366 (lv_at hl 1 rfl) ?_
  refine lv_icmp_eq (tgt := 1373) hx hb dL_law_1368 (by decide) (fun _ => ?_) (fun h9 => absurd (by decide) h9)
  refine lv_iload hx hb dL_law_1373 (lv_at hl 1 rfl) ?_
  refine lv_if_ne (tgt := 1390) hx hb dL_law_1375 (by decide) (fun _ => ?_) (fun h9 => absurd h9 (by decide))
  refine lv_goto (tgt := 1833) hx hb dL_law_1390 (by decide) ?_
  exact law_next l C0 (Nat.le_of_ble_eq_true rfl) (Nat.le_of_ble_eq_true rfl) hS (lv_sub hl [2, 6] rfl)
set_option maxHeartbeats 4000000 in
set_option maxRecDepth 100000 in
theorem law_group {p : Program} {e : Env} {s : State} {m : MethodId} {below : List Frame} {meth : Method} {c : Code} (l : Launch) (hst : l.stackTraces = false) {b : Nat} {xs : Nat → Int32} (C0 : lw_At p s m meth c b 4 xs) (hev : ev s) (hdv : dv s) (hZ : zz s.heap.size s s.heap) {dC : Nat → ClassId} {dI : Nat → Nat → Nat} {qx qm qo : Nat} {fs ms : List Value} {H : Heap} (hf : xF fs) (hm : mF ms) (hK : va_K (dC, dI) clx [] s) (hPx : va_P (dC, dI) clx [(qx, .inr (11, fs))] H) (hPm : va_P (dC, dI) clx [(qm, .inr (15, ms))] H) (hDm : va_D (nw s.heap.size) [(qm, .inr (15, ms))]) {locs : List Loc} (hS : va_S (nw s.heap.size) s.heap H locs) {ls : Array Slot} (hl : lv_has ls 8 [(4, .int 0), (3, .ref qo), (2, .ref qm), (1, .ref qx), (0, .ref b)]) : W p l e room_1 s m #[Value.ref b] below meth c H locs 340 146681 (lw_Z below #[Value.ref b] s) (F0 m 1393 ls []) := by
  obtain ⟨hx, hb, hr, hml, hown, hts, hX, hbl, hlocks, hgv⟩ := id C0
  have hu : ∀ w ∈ wU, w.before #[Value.ref b] s = true := fun w h => hts w (wU_sub h)
  have hown : s.vm.findClass RL = some m.cls := hown
  have hA : ∀ q : Nat, s.heap.size ≤ q → nw s.heap.size q := fun _ h => h
  have hbA : ¬ nw s.heap.size b := Nat.not_le.mpr hbl
  refine lv_aload_n hx hb dL_law_1393 rfl (lv_at hl 3 rfl) ?_
  refine lv_aload_n hx hb dL_law_1394 rfl (lv_at hl 4 rfl) ?_
  refine lv_iload hx hb dL_law_1395 (lv_at hl 0 rfl) ?_
  refine lv_iconst (v := 1) hx hb dL_law_1397 (by decide) ?_
  refine lv_iadd hx hb dL_law_1398 ?_
  refine va_sld hx hb hX hbl hbA hS in_1 dL_law_1399 ?_
  refine lv_aload_n hx hb dL_law_1400 rfl (lv_at hl 4 rfl) ?_
  refine lv_iload hx hb dL_law_1401 (lv_at hl 0 rfl) ?_
  refine lv_iconst (v := 2) hx hb dL_law_1403 (by decide) ?_
  refine lv_iadd hx hb dL_law_1404 ?_
  refine va_sld hx hb hX hbl hbA hS in_2 dL_law_1405 ?_
  refine lv_aload_n hx hb dL_law_1406 rfl (lv_at hl 1 rfl) ?_
  refine va_calli (vx_runSW (As := [.ref qx, .int (xs ((0 : Int32) + 1).toNatClampNeg), .int (xs ((0 : Int32) + 2).toNatClampNeg), .ref qo]) (rest := []) ⟨hx, hb, hml, hown, hu⟩ (w_L_group l hst dC dI qx _ qo fs (xs ((0 : Int32) + 1).toNatClampNeg) (xs ((0 : Int32) + 2).toNatClampNeg) hf) (vx_cwSW 4 hu (gS u782 u783 u653 u784) rfl rfl rfl (by decide +kernel) ⟨(Nat.le_of_ble_eq_true rfl), (Nat.le_of_ble_eq_true rfl)⟩) ⟨tQ_blind, tQ_at hPx hK hev hdv (hZ.grown hS.1 hS.2.1)⟩ rfl rfl hl.1 rfl (lv_room (Nat.le_of_ble_eq_true rfl)) dL_law_1407 ⟨(Nat.le_of_ble_eq_true rfl), (Nat.le_of_ble_eq_true rfl)⟩) hS (fun q hq h => absurd h (Nat.not_le.mpr hq)) (fun q h => Nat.le_trans hS.1 h) (fun r1 u9 t H locs ht hvm hw hB hz1 hk1 hS => ?_)
  have hw : r1 = 1 := hw
  subst hw
  have hPm := px_kept hPm (fun a ha => hk1 a ha (Nat.not_le.mpr ha))
  refine W.widen (k := 341) (n := 146687) (Nat.le_of_ble_eq_true rfl) (Nat.le_of_ble_eq_true rfl) ?_
  refine lv_istore (lv' := [(5, .int 1), (4, .int 0), (3, .ref qo), (2, .ref qm), (1, .ref qx), (0, .ref b)]) hx hb dL_law_1410 hl (by decide) rfl (fun ls hl => ?_)
  refine lv_aload_n hx hb dL_law_1412 rfl (lv_at hl 3 rfl) ?_
  refine lv_aload_n hx hb dL_law_1413 rfl (lv_at hl 5 rfl) ?_
  refine lv_iload hx hb dL_law_1414 (lv_at hl 1 rfl) ?_
  refine lv_iconst (v := 1) hx hb dL_law_1416 (by decide) ?_
  refine lv_iadd hx hb dL_law_1417 ?_
  refine va_sld hx hb hX hbl hbA hS in_1 dL_law_1418 ?_
  refine lv_aload_n hx hb dL_law_1419 rfl (lv_at hl 5 rfl) ?_
  refine lv_iload hx hb dL_law_1420 (lv_at hl 1 rfl) ?_
  refine lv_iconst (v := 2) hx hb dL_law_1422 (by decide) ?_
  refine lv_iadd hx hb dL_law_1423 ?_
  refine va_sld hx hb hX hbl hbA hS in_2 dL_law_1424 ?_
  have hFc := va_free (wc := [(qm, .inr (15, ms))]) hDm hS hA [0] rfl
  refine va_calli (va_runV (As := [.int (xs ((0 : Int32) + 1).toNatClampNeg), .int (xs ((0 : Int32) + 2).toNatClampNeg)]) (rest := []) ⟨hx, hb, hml, hown, hu⟩ (m_X15_group l dC dI qm _ ms (xs ((0 : Int32) + 1).toNatClampNeg) (xs ((0 : Int32) + 2).toNatClampNeg) hm) (cwV 2 hu (gV u785 u786 u787 u236 u788) rfl rfl rfl (by decide +kernel) ⟨(Nat.le_of_ble_eq_true rfl), (Nat.le_of_ble_eq_true rfl)⟩) ⟨mP_blind, va_recv hK hPm (ci := 15) (q0 := 0) rfl rfl, mP_at hPm hK hDm⟩ rfl rfl hl.1 rfl (lv_room (Nat.le_of_ble_eq_true rfl)) dL_law_1425 ⟨(Nat.le_of_ble_eq_true rfl), (Nat.le_of_ble_eq_true rfl)⟩) hS (fun q _ h => hFc q h) hFc (fun r2 u9 t H locs ht hvm hw hB hz1 hk1 hS => ?_)
  have hw : r2 = 0 := hw
  subst hw
  have hPm : va_P (dC, dI) clx [(qm, .inr (15, (ms.set 0 (.int 1))))] t.heap := hB
  rw [ht] at hPm
  have hDm : va_D (nw s.heap.size) [(qm, .inr (15, (ms.set 0 (.int 1))))] := hDm.set (p := 0) rfl
  refine lv_istore (lv' := [(6, .int 0), (5, .int 1), (4, .int 0), (3, .ref qo), (2, .ref qm), (1, .ref qx), (0, .ref b)]) hx hb dL_law_1428 hl (by decide) rfl (fun ls hl => ?_)
  refine lv_aload_n hx hb dL_law_1430 rfl (lv_at hl 4 rfl) ?_
  refine va_calli (va_runV (As := []) (rest := []) ⟨hx, hb, hml, hown, hu⟩ (r_X15_thrown l dC dI qm _ (ms.set 0 (.int 1)) 1 (List.getElem?_set_self (by rw [hm.2.2.2.2.2]; decide))) (cwV 0 hu (gV u659 u660 u661 u236 u662) rfl rfl rfl (by decide +kernel) ⟨(Nat.le_of_ble_eq_true rfl), (Nat.le_of_ble_eq_true rfl)⟩) ⟨mP_blind, va_recv hK hPm (ci := 15) (q0 := 0) rfl rfl, mP_at hPm hK hDm⟩ rfl rfl hl.1 rfl (lv_room (Nat.le_of_ble_eq_true rfl)) dL_law_1431 ⟨(Nat.le_of_ble_eq_true rfl), (Nat.le_of_ble_eq_true rfl)⟩) hS (fun q hq h => absurd h (Nat.not_le.mpr hq)) (fun q h => Nat.le_trans hS.1 h) (fun r3 u9 t H locs ht hvm hw hB hz1 hk1 hS => ?_)
  have hw : r3 = 1 := hw
  subst hw
  refine lv_iload hx hb dL_law_1434 (lv_at hl 1 rfl) ?_
  refine lv_icmp_eq (tgt := 1441) hx hb dL_law_1436 (by decide) (fun _ => ?_) (fun h9 => absurd (by decide) h9)
  refine lv_iload hx hb dL_law_1441 (lv_at hl 1 rfl) ?_
  refine lv_if_ne (tgt := 1458) hx hb dL_law_1443 (by decide) (fun _ => ?_) (fun h9 => absurd h9 (by decide))
  refine lv_goto (tgt := 1833) hx hb dL_law_1458 (by decide) ?_
  exact law_next l C0 (Nat.le_of_ble_eq_true rfl) (Nat.le_of_ble_eq_true rfl) hS (lv_sub hl [2, 6] rfl)
set_option maxHeartbeats 4000000 in
set_option maxRecDepth 100000 in
theorem law_pair {p : Program} {e : Env} {s : State} {m : MethodId} {below : List Frame} {meth : Method} {c : Code} (l : Launch) (hst : l.stackTraces = false) {b : Nat} {xs : Nat → Int32} (C0 : lw_At p s m meth c b 4 xs) (hev : ev s) (hdv : dv s) (hZ : zz s.heap.size s s.heap) {dC : Nat → ClassId} {dI : Nat → Nat → Nat} {qx qm qo : Nat} {fs ms : List Value} {H : Heap} (hf : xF fs) (hm : mF ms) (hK : va_K (dC, dI) clx [] s) (hPx : va_P (dC, dI) clx [(qx, .inr (11, fs))] H) (hPm : va_P (dC, dI) clx [(qm, .inr (15, ms))] H) (hDm : va_D (nw s.heap.size) [(qm, .inr (15, ms))]) {locs : List Loc} (hS : va_S (nw s.heap.size) s.heap H locs) {ls : Array Slot} (hl : lv_has ls 8 [(4, .int 0), (3, .ref qo), (2, .ref qm), (1, .ref qx), (0, .ref b)]) : W p l e room_1 s m #[Value.ref b] below meth c H locs 340 146681 (lw_Z below #[Value.ref b] s) (F0 m 1461 ls []) := by
  obtain ⟨hx, hb, hr, hml, hown, hts, hX, hbl, hlocks, hgv⟩ := id C0
  have hu : ∀ w ∈ wU, w.before #[Value.ref b] s = true := fun w h => hts w (wU_sub h)
  have hown : s.vm.findClass RL = some m.cls := hown
  have hA : ∀ q : Nat, s.heap.size ≤ q → nw s.heap.size q := fun _ h => h
  have hbA : ¬ nw s.heap.size b := Nat.not_le.mpr hbl
  refine lv_aload_n hx hb dL_law_1461 rfl (lv_at hl 3 rfl) ?_
  refine lv_aload_n hx hb dL_law_1462 rfl (lv_at hl 4 rfl) ?_
  refine lv_iload hx hb dL_law_1463 (lv_at hl 0 rfl) ?_
  refine lv_iconst (v := 1) hx hb dL_law_1465 (by decide) ?_
  refine lv_iadd hx hb dL_law_1466 ?_
  refine va_sld hx hb hX hbl hbA hS in_1 dL_law_1467 ?_
  refine lv_aload_n hx hb dL_law_1468 rfl (lv_at hl 4 rfl) ?_
  refine lv_iload hx hb dL_law_1469 (lv_at hl 0 rfl) ?_
  refine lv_iconst (v := 2) hx hb dL_law_1471 (by decide) ?_
  refine lv_iadd hx hb dL_law_1472 ?_
  refine va_sld hx hb hX hbl hbA hS in_2 dL_law_1473 ?_
  refine lv_aload_n hx hb dL_law_1474 rfl (lv_at hl 4 rfl) ?_
  refine lv_iload hx hb dL_law_1475 (lv_at hl 0 rfl) ?_
  refine lv_iconst (v := 3) hx hb dL_law_1477 (by decide) ?_
  refine lv_iadd hx hb dL_law_1478 ?_
  refine va_sld hx hb hX hbl hbA hS in_3 dL_law_1479 ?_
  refine lv_aload_n hx hb dL_law_1480 rfl (lv_at hl 1 rfl) ?_
  refine va_calli (vx_runSW (As := [.ref qx, .int (xs ((0 : Int32) + 1).toNatClampNeg), .int (xs ((0 : Int32) + 2).toNatClampNeg), .int (xs ((0 : Int32) + 3).toNatClampNeg), .ref qo]) (rest := []) ⟨hx, hb, hml, hown, hu⟩ (w_L_pair l hst dC dI qx _ qo fs (xs ((0 : Int32) + 1).toNatClampNeg) (xs ((0 : Int32) + 2).toNatClampNeg) (xs ((0 : Int32) + 3).toNatClampNeg) hf) (vx_cwSW 5 hu (gS u789 u790 u653 u791) rfl rfl rfl (by decide +kernel) ⟨(Nat.le_of_ble_eq_true rfl), (Nat.le_of_ble_eq_true rfl)⟩) ⟨tQ_blind, tQ_at hPx hK hev hdv (hZ.grown hS.1 hS.2.1)⟩ rfl rfl hl.1 rfl (lv_room (Nat.le_of_ble_eq_true rfl)) dL_law_1481 ⟨(Nat.le_of_ble_eq_true rfl), (Nat.le_of_ble_eq_true rfl)⟩) hS (fun q hq h => absurd h (Nat.not_le.mpr hq)) (fun q h => Nat.le_trans hS.1 h) (fun r1 u9 t H locs ht hvm hw hB hz1 hk1 hS => ?_)
  have hw : r1 = 1 := hw
  subst hw
  have hPm := px_kept hPm (fun a ha => hk1 a ha (Nat.not_le.mpr ha))
  refine W.widen (k := 341) (n := 146687) (Nat.le_of_ble_eq_true rfl) (Nat.le_of_ble_eq_true rfl) ?_
  refine lv_istore (lv' := [(5, .int 1), (4, .int 0), (3, .ref qo), (2, .ref qm), (1, .ref qx), (0, .ref b)]) hx hb dL_law_1484 hl (by decide) rfl (fun ls hl => ?_)
  refine lv_aload_n hx hb dL_law_1486 rfl (lv_at hl 3 rfl) ?_
  refine lv_aload_n hx hb dL_law_1487 rfl (lv_at hl 5 rfl) ?_
  refine lv_iload hx hb dL_law_1488 (lv_at hl 1 rfl) ?_
  refine lv_iconst (v := 1) hx hb dL_law_1490 (by decide) ?_
  refine lv_iadd hx hb dL_law_1491 ?_
  refine va_sld hx hb hX hbl hbA hS in_1 dL_law_1492 ?_
  refine lv_aload_n hx hb dL_law_1493 rfl (lv_at hl 5 rfl) ?_
  refine lv_iload hx hb dL_law_1494 (lv_at hl 1 rfl) ?_
  refine lv_iconst (v := 2) hx hb dL_law_1496 (by decide) ?_
  refine lv_iadd hx hb dL_law_1497 ?_
  refine va_sld hx hb hX hbl hbA hS in_2 dL_law_1498 ?_
  refine lv_aload_n hx hb dL_law_1499 rfl (lv_at hl 5 rfl) ?_
  refine lv_iload hx hb dL_law_1500 (lv_at hl 1 rfl) ?_
  refine lv_iconst (v := 3) hx hb dL_law_1502 (by decide) ?_
  refine lv_iadd hx hb dL_law_1503 ?_
  refine va_sld hx hb hX hbl hbA hS in_3 dL_law_1504 ?_
  have hFc := va_free (wc := [(qm, .inr (15, ms))]) hDm hS hA [0] rfl
  refine va_calli (va_runV (As := [.int (xs ((0 : Int32) + 1).toNatClampNeg), .int (xs ((0 : Int32) + 2).toNatClampNeg), .int (xs ((0 : Int32) + 3).toNatClampNeg)]) (rest := []) ⟨hx, hb, hml, hown, hu⟩ (m_X15_pair l dC dI qm _ ms (xs ((0 : Int32) + 1).toNatClampNeg) (xs ((0 : Int32) + 2).toNatClampNeg) (xs ((0 : Int32) + 3).toNatClampNeg) hm) (cwV 3 hu (gV u792 u793 u794 u236 u795) rfl rfl rfl (by decide +kernel) ⟨(Nat.le_of_ble_eq_true rfl), (Nat.le_of_ble_eq_true rfl)⟩) ⟨mP_blind, va_recv hK hPm (ci := 15) (q0 := 0) rfl rfl, mP_at hPm hK hDm⟩ rfl rfl hl.1 rfl (lv_room (Nat.le_of_ble_eq_true rfl)) dL_law_1505 ⟨(Nat.le_of_ble_eq_true rfl), (Nat.le_of_ble_eq_true rfl)⟩) hS (fun q _ h => hFc q h) hFc (fun r2 u9 t H locs ht hvm hw hB hz1 hk1 hS => ?_)
  have hw : r2 = 0 := hw
  subst hw
  have hPm : va_P (dC, dI) clx [(qm, .inr (15, (ms.set 0 (.int 1))))] t.heap := hB
  rw [ht] at hPm
  have hDm : va_D (nw s.heap.size) [(qm, .inr (15, (ms.set 0 (.int 1))))] := hDm.set (p := 0) rfl
  refine lv_istore (lv' := [(6, .int 0), (5, .int 1), (4, .int 0), (3, .ref qo), (2, .ref qm), (1, .ref qx), (0, .ref b)]) hx hb dL_law_1508 hl (by decide) rfl (fun ls hl => ?_)
  refine lv_aload_n hx hb dL_law_1510 rfl (lv_at hl 4 rfl) ?_
  refine va_calli (va_runV (As := []) (rest := []) ⟨hx, hb, hml, hown, hu⟩ (r_X15_thrown l dC dI qm _ (ms.set 0 (.int 1)) 1 (List.getElem?_set_self (by rw [hm.2.2.2.2.2]; decide))) (cwV 0 hu (gV u659 u660 u661 u236 u662) rfl rfl rfl (by decide +kernel) ⟨(Nat.le_of_ble_eq_true rfl), (Nat.le_of_ble_eq_true rfl)⟩) ⟨mP_blind, va_recv hK hPm (ci := 15) (q0 := 0) rfl rfl, mP_at hPm hK hDm⟩ rfl rfl hl.1 rfl (lv_room (Nat.le_of_ble_eq_true rfl)) dL_law_1511 ⟨(Nat.le_of_ble_eq_true rfl), (Nat.le_of_ble_eq_true rfl)⟩) hS (fun q hq h => absurd h (Nat.not_le.mpr hq)) (fun q h => Nat.le_trans hS.1 h) (fun r3 u9 t H locs ht hvm hw hB hz1 hk1 hS => ?_)
  have hw : r3 = 1 := hw
  subst hw
  refine lv_iload hx hb dL_law_1514 (lv_at hl 1 rfl) ?_
  refine lv_icmp_eq (tgt := 1521) hx hb dL_law_1516 (by decide) (fun _ => ?_) (fun h9 => absurd (by decide) h9)
  refine lv_iload hx hb dL_law_1521 (lv_at hl 1 rfl) ?_
  refine lv_if_ne (tgt := 1538) hx hb dL_law_1523 (by decide) (fun _ => ?_) (fun h9 => absurd h9 (by decide))
  refine lv_goto (tgt := 1833) hx hb dL_law_1538 (by decide) ?_
  exact law_next l C0 (Nat.le_of_ble_eq_true rfl) (Nat.le_of_ble_eq_true rfl) hS (lv_sub hl [2, 6] rfl)
set_option maxHeartbeats 4000000 in
set_option maxRecDepth 100000 in
theorem law_polynomial {p : Program} {e : Env} {s : State} {m : MethodId} {below : List Frame} {meth : Method} {c : Code} (l : Launch) (hst : l.stackTraces = false) {b : Nat} {xs : Nat → Int32} (C0 : lw_At p s m meth c b 4 xs) (hev : ev s) (hdv : dv s) (hZ : zz s.heap.size s s.heap) {dC : Nat → ClassId} {dI : Nat → Nat → Nat} {qx qm qo : Nat} {fs ms : List Value} {H : Heap} (hf : xF fs) (hm : mF ms) (hK : va_K (dC, dI) clx [] s) (hPx : va_P (dC, dI) clx [(qx, .inr (11, fs))] H) (hPm : va_P (dC, dI) clx [(qm, .inr (15, ms))] H) (hDm : va_D (nw s.heap.size) [(qm, .inr (15, ms))]) {locs : List Loc} (hS : va_S (nw s.heap.size) s.heap H locs) {ls : Array Slot} (hl : lv_has ls 8 [(4, .int 0), (3, .ref qo), (2, .ref qm), (1, .ref qx), (0, .ref b)]) : W p l e room_1 s m #[Value.ref b] below meth c H locs 340 146681 (lw_Z below #[Value.ref b] s) (F0 m 1541 ls []) := by
  obtain ⟨hx, hb, hr, hml, hown, hts, hX, hbl, hlocks, hgv⟩ := id C0
  have hu : ∀ w ∈ wU, w.before #[Value.ref b] s = true := fun w h => hts w (wU_sub h)
  have hown : s.vm.findClass RL = some m.cls := hown
  have hA : ∀ q : Nat, s.heap.size ≤ q → nw s.heap.size q := fun _ h => h
  have hbA : ¬ nw s.heap.size b := Nat.not_le.mpr hbl
  refine lv_aload_n hx hb dL_law_1541 rfl (lv_at hl 3 rfl) ?_
  refine lv_aload_n hx hb dL_law_1542 rfl (lv_at hl 4 rfl) ?_
  refine lv_iload hx hb dL_law_1543 (lv_at hl 0 rfl) ?_
  refine lv_iconst (v := 1) hx hb dL_law_1545 (by decide) ?_
  refine lv_iadd hx hb dL_law_1546 ?_
  refine va_sld hx hb hX hbl hbA hS in_1 dL_law_1547 ?_
  refine lv_aload_n hx hb dL_law_1548 rfl (lv_at hl 4 rfl) ?_
  refine lv_iload hx hb dL_law_1549 (lv_at hl 0 rfl) ?_
  refine lv_iconst (v := 2) hx hb dL_law_1551 (by decide) ?_
  refine lv_iadd hx hb dL_law_1552 ?_
  refine va_sld hx hb hX hbl hbA hS in_2 dL_law_1553 ?_
  refine lv_aload_n hx hb dL_law_1554 rfl (lv_at hl 1 rfl) ?_
  refine va_calli (vx_runSW (As := [.ref qx, .int (xs ((0 : Int32) + 1).toNatClampNeg), .int (xs ((0 : Int32) + 2).toNatClampNeg), .ref qo]) (rest := []) ⟨hx, hb, hml, hown, hu⟩ (w_L_polynomial l hst dC dI qx _ qo fs (xs ((0 : Int32) + 1).toNatClampNeg) (xs ((0 : Int32) + 2).toNatClampNeg) hf) (vx_cwSW 4 hu (gS u796 u797 u653 u798) rfl rfl rfl (by decide +kernel) ⟨(Nat.le_of_ble_eq_true rfl), (Nat.le_of_ble_eq_true rfl)⟩) ⟨tQ_blind, tQ_at hPx hK hev hdv (hZ.grown hS.1 hS.2.1)⟩ rfl rfl hl.1 rfl (lv_room (Nat.le_of_ble_eq_true rfl)) dL_law_1555 ⟨(Nat.le_of_ble_eq_true rfl), (Nat.le_of_ble_eq_true rfl)⟩) hS (fun q hq h => absurd h (Nat.not_le.mpr hq)) (fun q h => Nat.le_trans hS.1 h) (fun r1 u9 t H locs ht hvm hw hB hz1 hk1 hS => ?_)
  have hw : r1 = 1 := hw
  subst hw
  have hPm := px_kept hPm (fun a ha => hk1 a ha (Nat.not_le.mpr ha))
  refine W.widen (k := 341) (n := 146687) (Nat.le_of_ble_eq_true rfl) (Nat.le_of_ble_eq_true rfl) ?_
  refine lv_istore (lv' := [(5, .int 1), (4, .int 0), (3, .ref qo), (2, .ref qm), (1, .ref qx), (0, .ref b)]) hx hb dL_law_1558 hl (by decide) rfl (fun ls hl => ?_)
  refine lv_aload_n hx hb dL_law_1560 rfl (lv_at hl 3 rfl) ?_
  refine lv_aload_n hx hb dL_law_1561 rfl (lv_at hl 5 rfl) ?_
  refine lv_iload hx hb dL_law_1562 (lv_at hl 1 rfl) ?_
  refine lv_iconst (v := 1) hx hb dL_law_1564 (by decide) ?_
  refine lv_iadd hx hb dL_law_1565 ?_
  refine va_sld hx hb hX hbl hbA hS in_1 dL_law_1566 ?_
  refine lv_aload_n hx hb dL_law_1567 rfl (lv_at hl 5 rfl) ?_
  refine lv_iload hx hb dL_law_1568 (lv_at hl 1 rfl) ?_
  refine lv_iconst (v := 2) hx hb dL_law_1570 (by decide) ?_
  refine lv_iadd hx hb dL_law_1571 ?_
  refine va_sld hx hb hX hbl hbA hS in_2 dL_law_1572 ?_
  have hFc := va_free (wc := [(qm, .inr (15, ms))]) hDm hS hA [0] rfl
  refine va_calli (va_runV (As := [.int (xs ((0 : Int32) + 1).toNatClampNeg), .int (xs ((0 : Int32) + 2).toNatClampNeg)]) (rest := []) ⟨hx, hb, hml, hown, hu⟩ (m_X15_polynomial l dC dI qm _ ms (xs ((0 : Int32) + 1).toNatClampNeg) (xs ((0 : Int32) + 2).toNatClampNeg) hm) (cwV 2 hu (gV u799 u800 u801 u236 u802) rfl rfl rfl (by decide +kernel) ⟨(Nat.le_of_ble_eq_true rfl), (Nat.le_of_ble_eq_true rfl)⟩) ⟨mP_blind, va_recv hK hPm (ci := 15) (q0 := 0) rfl rfl, mP_at hPm hK hDm⟩ rfl rfl hl.1 rfl (lv_room (Nat.le_of_ble_eq_true rfl)) dL_law_1573 ⟨(Nat.le_of_ble_eq_true rfl), (Nat.le_of_ble_eq_true rfl)⟩) hS (fun q _ h => hFc q h) hFc (fun r2 u9 t H locs ht hvm hw hB hz1 hk1 hS => ?_)
  have hw : r2 = 0 := hw
  subst hw
  have hPm : va_P (dC, dI) clx [(qm, .inr (15, (ms.set 0 (.int 1))))] t.heap := hB
  rw [ht] at hPm
  have hDm : va_D (nw s.heap.size) [(qm, .inr (15, (ms.set 0 (.int 1))))] := hDm.set (p := 0) rfl
  refine lv_istore (lv' := [(6, .int 0), (5, .int 1), (4, .int 0), (3, .ref qo), (2, .ref qm), (1, .ref qx), (0, .ref b)]) hx hb dL_law_1576 hl (by decide) rfl (fun ls hl => ?_)
  refine lv_aload_n hx hb dL_law_1578 rfl (lv_at hl 4 rfl) ?_
  refine va_calli (va_runV (As := []) (rest := []) ⟨hx, hb, hml, hown, hu⟩ (r_X15_thrown l dC dI qm _ (ms.set 0 (.int 1)) 1 (List.getElem?_set_self (by rw [hm.2.2.2.2.2]; decide))) (cwV 0 hu (gV u659 u660 u661 u236 u662) rfl rfl rfl (by decide +kernel) ⟨(Nat.le_of_ble_eq_true rfl), (Nat.le_of_ble_eq_true rfl)⟩) ⟨mP_blind, va_recv hK hPm (ci := 15) (q0 := 0) rfl rfl, mP_at hPm hK hDm⟩ rfl rfl hl.1 rfl (lv_room (Nat.le_of_ble_eq_true rfl)) dL_law_1579 ⟨(Nat.le_of_ble_eq_true rfl), (Nat.le_of_ble_eq_true rfl)⟩) hS (fun q hq h => absurd h (Nat.not_le.mpr hq)) (fun q h => Nat.le_trans hS.1 h) (fun r3 u9 t H locs ht hvm hw hB hz1 hk1 hS => ?_)
  have hw : r3 = 1 := hw
  subst hw
  refine lv_iload hx hb dL_law_1582 (lv_at hl 1 rfl) ?_
  refine lv_icmp_eq (tgt := 1589) hx hb dL_law_1584 (by decide) (fun _ => ?_) (fun h9 => absurd (by decide) h9)
  refine lv_iload hx hb dL_law_1589 (lv_at hl 1 rfl) ?_
  refine lv_if_ne (tgt := 1606) hx hb dL_law_1591 (by decide) (fun _ => ?_) (fun h9 => absurd h9 (by decide))
  refine lv_goto (tgt := 1833) hx hb dL_law_1606 (by decide) ?_
  exact law_next l C0 (Nat.le_of_ble_eq_true rfl) (Nat.le_of_ble_eq_true rfl) hS (lv_sub hl [2, 6] rfl)
set_option maxHeartbeats 4000000 in
set_option maxRecDepth 100000 in
theorem law_coefficient {p : Program} {e : Env} {s : State} {m : MethodId} {below : List Frame} {meth : Method} {c : Code} (l : Launch) (hst : l.stackTraces = false) {b : Nat} {xs : Nat → Int32} (C0 : lw_At p s m meth c b 4 xs) (hev : ev s) (hdv : dv s) (hZ : zz s.heap.size s s.heap) {dC : Nat → ClassId} {dI : Nat → Nat → Nat} {qx qm qo : Nat} {fs ms : List Value} {H : Heap} (hf : xF fs) (hm : mF ms) (hK : va_K (dC, dI) clx [] s) (hPx : va_P (dC, dI) clx [(qx, .inr (11, fs))] H) (hPm : va_P (dC, dI) clx [(qm, .inr (15, ms))] H) (hDm : va_D (nw s.heap.size) [(qm, .inr (15, ms))]) {f3 : List Value} {q3 : Nat} (h14 : fs[14]? = some (.ref q3)) (h10 : f3[10]? = some (.int 0)) (h12 : f3[12]? = some (.int (-1))) (hP3 : va_P (dC, dI) clx [(qx, .inr (11, fs)), (q3, .inr (3, f3))] H) (hD3 : va_D (nw s.heap.size) [(qx, .inr (11, fs)), (q3, .inr (3, f3))]) {locs : List Loc} (hS : va_S (nw s.heap.size) s.heap H locs) {ls : Array Slot} (hl : lv_has ls 8 [(4, .int 0), (3, .ref qo), (2, .ref qm), (1, .ref qx), (0, .ref b)]) : W p l e room_1 s m #[Value.ref b] below meth c H locs 340 146681 (lw_Z below #[Value.ref b] s) (F0 m 1609 ls []) := by
  obtain ⟨hx, hb, hr, hml, hown, hts, hX, hbl, hlocks, hgv⟩ := id C0
  have hu : ∀ w ∈ wU, w.before #[Value.ref b] s = true := fun w h => hts w (wU_sub h)
  have hown : s.vm.findClass RL = some m.cls := hown
  have hA : ∀ q : Nat, s.heap.size ≤ q → nw s.heap.size q := fun _ h => h
  have hbA : ¬ nw s.heap.size b := Nat.not_le.mpr hbl
  refine lv_aload_n hx hb dL_law_1609 rfl (lv_at hl 3 rfl) ?_
  refine lv_aload_n hx hb dL_law_1610 rfl (lv_at hl 4 rfl) ?_
  refine lv_iload hx hb dL_law_1611 (lv_at hl 0 rfl) ?_
  refine lv_iconst (v := 1) hx hb dL_law_1613 (by decide) ?_
  refine lv_iadd hx hb dL_law_1614 ?_
  refine va_sld hx hb hX hbl hbA hS in_1 dL_law_1615 ?_
  refine va_calli (va_runV (As := [.int (xs ((0 : Int32) + 1).toNatClampNeg)]) (rest := []) ⟨hx, hb, hml, hown, hu⟩ (r_X11_coefficient l dC dI qx _ fs f3 q3 (xs ((0 : Int32) + 1).toNatClampNeg) h14 h10 h12) (cwV 1 hu (gV u803 u804 u805 u432 u806) rfl rfl rfl (by decide +kernel) ⟨(Nat.le_of_ble_eq_true rfl), (Nat.le_of_ble_eq_true rfl)⟩) ⟨mP_blind, va_recv hK hP3 (ci := 11) (q0 := 0) rfl rfl, mP_at hP3 hK hD3⟩ rfl rfl hl.1 rfl (lv_room (Nat.le_of_ble_eq_true rfl)) dL_law_1616 ⟨(Nat.le_of_ble_eq_true rfl), (Nat.le_of_ble_eq_true rfl)⟩) hS (fun q hq h => absurd h (Nat.not_le.mpr hq)) (fun q h => Nat.le_trans hS.1 h) (fun r1 u9 t H locs ht hvm hw hB hz1 hk1 hS => ?_)
  have hw : r1 = 0 := hw
  subst hw
  have hPm := px_kept hPm (fun a ha => hk1 a ha (Nat.not_le.mpr ha))
  refine W.widen (k := 340) (n := 146681) (Nat.le_of_ble_eq_true rfl) (Nat.le_of_ble_eq_true rfl) ?_
  refine lv_aload_n hx hb dL_law_1619 rfl (lv_at hl 2 rfl) ?_
  refine lv_aload_n hx hb dL_law_1620 rfl (lv_at hl 4 rfl) ?_
  refine lv_iload hx hb dL_law_1621 (lv_at hl 0 rfl) ?_
  refine lv_iconst (v := 1) hx hb dL_law_1623 (by decide) ?_
  refine lv_iadd hx hb dL_law_1624 ?_
  refine va_sld hx hb hX hbl hbA hS in_1 dL_law_1625 ?_
  have hFc := va_free (wc := [(qm, .inr (15, ms))]) hDm hS hA [0] rfl
  refine va_calli (va_runV (As := [.int (xs ((0 : Int32) + 1).toNatClampNeg)]) (rest := [.int 0]) ⟨hx, hb, hml, hown, hu⟩ (m_X15_coefficient l dC dI qm _ ms (xs ((0 : Int32) + 1).toNatClampNeg) hm) (cwV 1 hu (gV u807 u808 u809 u236 u810) rfl rfl rfl (by decide +kernel) ⟨(Nat.le_of_ble_eq_true rfl), (Nat.le_of_ble_eq_true rfl)⟩) ⟨mP_blind, va_recv hK hPm (ci := 15) (q0 := 0) rfl rfl, mP_at hPm hK hDm⟩ rfl rfl hl.1 rfl (lv_room (Nat.le_of_ble_eq_true rfl)) dL_law_1626 ⟨(Nat.le_of_ble_eq_true rfl), (Nat.le_of_ble_eq_true rfl)⟩) hS (fun q _ h => hFc q h) hFc (fun r1 u9 t H locs ht hvm hw hB hz1 hk1 hS => ?_)
  have hw : r1 = 0 := hw
  subst hw
  have hPm : va_P (dC, dI) clx [(qm, .inr (15, (ms.set 0 (.int 0))))] t.heap := hB
  rw [ht] at hPm
  have hDm : va_D (nw s.heap.size) [(qm, .inr (15, (ms.set 0 (.int 0))))] := hDm.set (p := 0) rfl
  refine lv_icmp_eq (tgt := 1833) hx hb dL_law_1629 (by decide) (fun _ => ?_) (fun h9 => absurd rfl h9)
  exact law_next l C0 (Nat.le_of_ble_eq_true rfl) (Nat.le_of_ble_eq_true rfl) hS (lv_sub hl [0, 4] rfl)
set_option maxHeartbeats 4000000 in
set_option maxRecDepth 100000 in
theorem law_root {p : Program} {e : Env} {s : State} {m : MethodId} {below : List Frame} {meth : Method} {c : Code} (l : Launch) (hst : l.stackTraces = false) {b : Nat} {xs : Nat → Int32} (C0 : lw_At p s m meth c b 4 xs) (hev : ev s) (hdv : dv s) (hZ : zz s.heap.size s s.heap) {dC : Nat → ClassId} {dI : Nat → Nat → Nat} {qx qm qo : Nat} {fs ms : List Value} {H : Heap} (hf : xF fs) (hm : mF ms) (hK : va_K (dC, dI) clx [] s) (hPx : va_P (dC, dI) clx [(qx, .inr (11, fs))] H) (hPm : va_P (dC, dI) clx [(qm, .inr (15, ms))] H) (hDm : va_D (nw s.heap.size) [(qm, .inr (15, ms))]) {f3 : List Value} {q3 : Nat} (h14 : fs[14]? = some (.ref q3)) (h10 : f3[10]? = some (.int 0)) (h12 : f3[12]? = some (.int (-1))) (hP3 : va_P (dC, dI) clx [(qx, .inr (11, fs)), (q3, .inr (3, f3))] H) (hD3 : va_D (nw s.heap.size) [(qx, .inr (11, fs)), (q3, .inr (3, f3))]) {locs : List Loc} (hS : va_S (nw s.heap.size) s.heap H locs) {ls : Array Slot} (hl : lv_has ls 8 [(4, .int 0), (3, .ref qo), (2, .ref qm), (1, .ref qx), (0, .ref b)]) : W p l e room_1 s m #[Value.ref b] below meth c H locs 340 146681 (lw_Z below #[Value.ref b] s) (F0 m 1634 ls []) := by
  obtain ⟨hx, hb, hr, hml, hown, hts, hX, hbl, hlocks, hgv⟩ := id C0
  have hu : ∀ w ∈ wU, w.before #[Value.ref b] s = true := fun w h => hts w (wU_sub h)
  have hown : s.vm.findClass RL = some m.cls := hown
  have hA : ∀ q : Nat, s.heap.size ≤ q → nw s.heap.size q := fun _ h => h
  have hbA : ¬ nw s.heap.size b := Nat.not_le.mpr hbl
  refine lv_aload_n hx hb dL_law_1634 rfl (lv_at hl 3 rfl) ?_
  refine lv_aload_n hx hb dL_law_1635 rfl (lv_at hl 4 rfl) ?_
  refine lv_iload hx hb dL_law_1636 (lv_at hl 0 rfl) ?_
  refine lv_iconst (v := 1) hx hb dL_law_1638 (by decide) ?_
  refine lv_iadd hx hb dL_law_1639 ?_
  refine va_sld hx hb hX hbl hbA hS in_1 dL_law_1640 ?_
  refine va_calli (va_runV (As := [.int (xs ((0 : Int32) + 1).toNatClampNeg)]) (rest := []) ⟨hx, hb, hml, hown, hu⟩ (r_X11_root l dC dI qx _ fs f3 q3 (xs ((0 : Int32) + 1).toNatClampNeg) h14 h10 h12) (cwV 1 hu (gV u811 u812 u813 u432 u814) rfl rfl rfl (by decide +kernel) ⟨(Nat.le_of_ble_eq_true rfl), (Nat.le_of_ble_eq_true rfl)⟩) ⟨mP_blind, va_recv hK hP3 (ci := 11) (q0 := 0) rfl rfl, mP_at hP3 hK hD3⟩ rfl rfl hl.1 rfl (lv_room (Nat.le_of_ble_eq_true rfl)) dL_law_1641 ⟨(Nat.le_of_ble_eq_true rfl), (Nat.le_of_ble_eq_true rfl)⟩) hS (fun q hq h => absurd h (Nat.not_le.mpr hq)) (fun q h => Nat.le_trans hS.1 h) (fun r1 u9 t H locs ht hvm hw hB hz1 hk1 hS => ?_)
  have hw : r1 = (-1) := hw
  subst hw
  have hPm := px_kept hPm (fun a ha => hk1 a ha (Nat.not_le.mpr ha))
  refine W.widen (k := 340) (n := 146681) (Nat.le_of_ble_eq_true rfl) (Nat.le_of_ble_eq_true rfl) ?_
  refine lv_aload_n hx hb dL_law_1644 rfl (lv_at hl 2 rfl) ?_
  refine lv_aload_n hx hb dL_law_1645 rfl (lv_at hl 4 rfl) ?_
  refine lv_iload hx hb dL_law_1646 (lv_at hl 0 rfl) ?_
  refine lv_iconst (v := 1) hx hb dL_law_1648 (by decide) ?_
  refine lv_iadd hx hb dL_law_1649 ?_
  refine va_sld hx hb hX hbl hbA hS in_1 dL_law_1650 ?_
  have hFc := va_free (wc := [(qm, .inr (15, ms))]) hDm hS hA [0] rfl
  refine va_calli (va_runV (As := [.int (xs ((0 : Int32) + 1).toNatClampNeg)]) (rest := [.int (-1)]) ⟨hx, hb, hml, hown, hu⟩ (m_X15_root l dC dI qm _ ms (xs ((0 : Int32) + 1).toNatClampNeg) hm) (cwV 1 hu (gV u815 u816 u817 u236 u818) rfl rfl rfl (by decide +kernel) ⟨(Nat.le_of_ble_eq_true rfl), (Nat.le_of_ble_eq_true rfl)⟩) ⟨mP_blind, va_recv hK hPm (ci := 15) (q0 := 0) rfl rfl, mP_at hPm hK hDm⟩ rfl rfl hl.1 rfl (lv_room (Nat.le_of_ble_eq_true rfl)) dL_law_1651 ⟨(Nat.le_of_ble_eq_true rfl), (Nat.le_of_ble_eq_true rfl)⟩) hS (fun q _ h => hFc q h) hFc (fun r1 u9 t H locs ht hvm hw hB hz1 hk1 hS => ?_)
  have hw : r1 = (-1) := hw
  subst hw
  have hPm : va_P (dC, dI) clx [(qm, .inr (15, (ms.set 0 (.int 0))))] t.heap := hB
  rw [ht] at hPm
  have hDm : va_D (nw s.heap.size) [(qm, .inr (15, (ms.set 0 (.int 0))))] := hDm.set (p := 0) rfl
  refine lv_icmp_eq (tgt := 1833) hx hb dL_law_1654 (by decide) (fun _ => ?_) (fun h9 => absurd rfl h9)
  exact law_next l C0 (Nat.le_of_ble_eq_true rfl) (Nat.le_of_ble_eq_true rfl) hS (lv_sub hl [0, 4] rfl)
set_option maxHeartbeats 4000000 in
set_option maxRecDepth 100000 in
theorem law_led {p : Program} {e : Env} {s : State} {m : MethodId} {below : List Frame} {meth : Method} {c : Code} (l : Launch) (hst : l.stackTraces = false) {b : Nat} {xs : Nat → Int32} (C0 : lw_At p s m meth c b 4 xs) (hev : ev s) (hdv : dv s) (hZ : zz s.heap.size s s.heap) {dC : Nat → ClassId} {dI : Nat → Nat → Nat} {qx qm qo : Nat} {fs ms : List Value} {H : Heap} (hf : xF fs) (hm : mF ms) (hK : va_K (dC, dI) clx [] s) (hPx : va_P (dC, dI) clx [(qx, .inr (11, fs))] H) (hPm : va_P (dC, dI) clx [(qm, .inr (15, ms))] H) (hDm : va_D (nw s.heap.size) [(qm, .inr (15, ms))]) {locs : List Loc} (hS : va_S (nw s.heap.size) s.heap H locs) {ls : Array Slot} (hl : lv_has ls 8 [(4, .int 0), (3, .ref qo), (2, .ref qm), (1, .ref qx), (0, .ref b)]) : W p l e room_1 s m #[Value.ref b] below meth c H locs 340 146681 (lw_Z below #[Value.ref b] s) (F0 m 1659 ls []) := by
  obtain ⟨hx, hb, hr, hml, hown, hts, hX, hbl, hlocks, hgv⟩ := id C0
  have hu : ∀ w ∈ wU, w.before #[Value.ref b] s = true := fun w h => hts w (wU_sub h)
  have hown : s.vm.findClass RL = some m.cls := hown
  have hA : ∀ q : Nat, s.heap.size ≤ q → nw s.heap.size q := fun _ h => h
  have hbA : ¬ nw s.heap.size b := Nat.not_le.mpr hbl
  refine lv_aload_n hx hb dL_law_1659 rfl (lv_at hl 3 rfl) ?_
  refine lv_aload_n hx hb dL_law_1660 rfl (lv_at hl 4 rfl) ?_
  refine lv_iload hx hb dL_law_1661 (lv_at hl 0 rfl) ?_
  refine lv_iconst (v := 1) hx hb dL_law_1663 (by decide) ?_
  refine lv_iadd hx hb dL_law_1664 ?_
  refine va_sld hx hb hX hbl hbA hS in_1 dL_law_1665 ?_
  refine lv_aload_n hx hb dL_law_1666 rfl (lv_at hl 1 rfl) ?_
  refine va_calli (vx_runSW (As := [.ref qx, .int (xs ((0 : Int32) + 1).toNatClampNeg), .ref qo]) (rest := []) ⟨hx, hb, hml, hown, hu⟩ (w_L_led l hst dC dI qx _ qo fs (xs ((0 : Int32) + 1).toNatClampNeg) hf) (vx_cwSW 3 hu (gS u819 u820 u653 u821) rfl rfl rfl (by decide +kernel) ⟨(Nat.le_of_ble_eq_true rfl), (Nat.le_of_ble_eq_true rfl)⟩) ⟨tQ_blind, tQ_at hPx hK hev hdv (hZ.grown hS.1 hS.2.1)⟩ rfl rfl hl.1 rfl (lv_room (Nat.le_of_ble_eq_true rfl)) dL_law_1667 ⟨(Nat.le_of_ble_eq_true rfl), (Nat.le_of_ble_eq_true rfl)⟩) hS (fun q hq h => absurd h (Nat.not_le.mpr hq)) (fun q h => Nat.le_trans hS.1 h) (fun r1 u9 t H locs ht hvm hw hB hz1 hk1 hS => ?_)
  have hw : r1 = 1 := hw
  subst hw
  have hPm := px_kept hPm (fun a ha => hk1 a ha (Nat.not_le.mpr ha))
  refine W.widen (k := 341) (n := 146687) (Nat.le_of_ble_eq_true rfl) (Nat.le_of_ble_eq_true rfl) ?_
  refine lv_istore (lv' := [(5, .int 1), (4, .int 0), (3, .ref qo), (2, .ref qm), (1, .ref qx), (0, .ref b)]) hx hb dL_law_1670 hl (by decide) rfl (fun ls hl => ?_)
  refine lv_aload_n hx hb dL_law_1672 rfl (lv_at hl 3 rfl) ?_
  refine lv_aload_n hx hb dL_law_1673 rfl (lv_at hl 5 rfl) ?_
  refine lv_iload hx hb dL_law_1674 (lv_at hl 1 rfl) ?_
  refine lv_iconst (v := 1) hx hb dL_law_1676 (by decide) ?_
  refine lv_iadd hx hb dL_law_1677 ?_
  refine va_sld hx hb hX hbl hbA hS in_1 dL_law_1678 ?_
  have hFc := va_free (wc := [(qm, .inr (15, ms))]) hDm hS hA [0] rfl
  refine va_calli (va_runV (As := [.int (xs ((0 : Int32) + 1).toNatClampNeg)]) (rest := []) ⟨hx, hb, hml, hown, hu⟩ (m_X15_led l dC dI qm _ ms (xs ((0 : Int32) + 1).toNatClampNeg) hm) (cwV 1 hu (gV u822 u823 u824 u236 u825) rfl rfl rfl (by decide +kernel) ⟨(Nat.le_of_ble_eq_true rfl), (Nat.le_of_ble_eq_true rfl)⟩) ⟨mP_blind, va_recv hK hPm (ci := 15) (q0 := 0) rfl rfl, mP_at hPm hK hDm⟩ rfl rfl hl.1 rfl (lv_room (Nat.le_of_ble_eq_true rfl)) dL_law_1679 ⟨(Nat.le_of_ble_eq_true rfl), (Nat.le_of_ble_eq_true rfl)⟩) hS (fun q _ h => hFc q h) hFc (fun r2 u9 t H locs ht hvm hw hB hz1 hk1 hS => ?_)
  have hw : r2 = 0 := hw
  subst hw
  have hPm : va_P (dC, dI) clx [(qm, .inr (15, (ms.set 0 (.int 1))))] t.heap := hB
  rw [ht] at hPm
  have hDm : va_D (nw s.heap.size) [(qm, .inr (15, (ms.set 0 (.int 1))))] := hDm.set (p := 0) rfl
  refine lv_istore (lv' := [(6, .int 0), (5, .int 1), (4, .int 0), (3, .ref qo), (2, .ref qm), (1, .ref qx), (0, .ref b)]) hx hb dL_law_1682 hl (by decide) rfl (fun ls hl => ?_)
  refine lv_aload_n hx hb dL_law_1684 rfl (lv_at hl 4 rfl) ?_
  refine va_calli (va_runV (As := []) (rest := []) ⟨hx, hb, hml, hown, hu⟩ (r_X15_thrown l dC dI qm _ (ms.set 0 (.int 1)) 1 (List.getElem?_set_self (by rw [hm.2.2.2.2.2]; decide))) (cwV 0 hu (gV u659 u660 u661 u236 u662) rfl rfl rfl (by decide +kernel) ⟨(Nat.le_of_ble_eq_true rfl), (Nat.le_of_ble_eq_true rfl)⟩) ⟨mP_blind, va_recv hK hPm (ci := 15) (q0 := 0) rfl rfl, mP_at hPm hK hDm⟩ rfl rfl hl.1 rfl (lv_room (Nat.le_of_ble_eq_true rfl)) dL_law_1685 ⟨(Nat.le_of_ble_eq_true rfl), (Nat.le_of_ble_eq_true rfl)⟩) hS (fun q hq h => absurd h (Nat.not_le.mpr hq)) (fun q h => Nat.le_trans hS.1 h) (fun r3 u9 t H locs ht hvm hw hB hz1 hk1 hS => ?_)
  have hw : r3 = 1 := hw
  subst hw
  refine lv_iload hx hb dL_law_1688 (lv_at hl 1 rfl) ?_
  refine lv_icmp_eq (tgt := 1695) hx hb dL_law_1690 (by decide) (fun _ => ?_) (fun h9 => absurd (by decide) h9)
  refine lv_iload hx hb dL_law_1695 (lv_at hl 1 rfl) ?_
  refine lv_if_ne (tgt := 1712) hx hb dL_law_1697 (by decide) (fun _ => ?_) (fun h9 => absurd h9 (by decide))
  refine lv_goto (tgt := 1833) hx hb dL_law_1712 (by decide) ?_
  exact law_next l C0 (Nat.le_of_ble_eq_true rfl) (Nat.le_of_ble_eq_true rfl) hS (lv_sub hl [2, 6] rfl)
set_option maxHeartbeats 4000000 in
set_option maxRecDepth 100000 in
theorem law_through {p : Program} {e : Env} {s : State} {m : MethodId} {below : List Frame} {meth : Method} {c : Code} (l : Launch) (hst : l.stackTraces = false) {b : Nat} {xs : Nat → Int32} (C0 : lw_At p s m meth c b 4 xs) (hev : ev s) (hdv : dv s) (hZ : zz s.heap.size s s.heap) {dC : Nat → ClassId} {dI : Nat → Nat → Nat} {qx qm qo : Nat} {fs ms : List Value} {H : Heap} (hf : xF fs) (hm : mF ms) (hK : va_K (dC, dI) clx [] s) (hPx : va_P (dC, dI) clx [(qx, .inr (11, fs))] H) (hPm : va_P (dC, dI) clx [(qm, .inr (15, ms))] H) (hDm : va_D (nw s.heap.size) [(qm, .inr (15, ms))]) {locs : List Loc} (hS : va_S (nw s.heap.size) s.heap H locs) {ls : Array Slot} (hl : lv_has ls 8 [(4, .int 0), (3, .ref qo), (2, .ref qm), (1, .ref qx), (0, .ref b)]) : W p l e room_1 s m #[Value.ref b] below meth c H locs 340 146681 (lw_Z below #[Value.ref b] s) (F0 m 1715 ls []) := by
  obtain ⟨hx, hb, hr, hml, hown, hts, hX, hbl, hlocks, hgv⟩ := id C0
  have hu : ∀ w ∈ wU, w.before #[Value.ref b] s = true := fun w h => hts w (wU_sub h)
  have hown : s.vm.findClass RL = some m.cls := hown
  have hA : ∀ q : Nat, s.heap.size ≤ q → nw s.heap.size q := fun _ h => h
  have hbA : ¬ nw s.heap.size b := Nat.not_le.mpr hbl
  refine lv_aload_n hx hb dL_law_1715 rfl (lv_at hl 3 rfl) ?_
  refine lv_aload_n hx hb dL_law_1716 rfl (lv_at hl 4 rfl) ?_
  refine lv_iload hx hb dL_law_1717 (lv_at hl 0 rfl) ?_
  refine lv_iconst (v := 1) hx hb dL_law_1719 (by decide) ?_
  refine lv_iadd hx hb dL_law_1720 ?_
  refine va_sld hx hb hX hbl hbA hS in_1 dL_law_1721 ?_
  refine lv_aload_n hx hb dL_law_1722 rfl (lv_at hl 4 rfl) ?_
  refine lv_iload hx hb dL_law_1723 (lv_at hl 0 rfl) ?_
  refine lv_iconst (v := 2) hx hb dL_law_1725 (by decide) ?_
  refine lv_iadd hx hb dL_law_1726 ?_
  refine va_sld hx hb hX hbl hbA hS in_2 dL_law_1727 ?_
  refine lv_aload_n hx hb dL_law_1728 rfl (lv_at hl 1 rfl) ?_
  refine va_calli (vx_runSW (As := [.ref qx, .int (xs ((0 : Int32) + 1).toNatClampNeg), .int (xs ((0 : Int32) + 2).toNatClampNeg), .ref qo]) (rest := []) ⟨hx, hb, hml, hown, hu⟩ (w_L_through l hst dC dI qx _ qo fs (xs ((0 : Int32) + 1).toNatClampNeg) (xs ((0 : Int32) + 2).toNatClampNeg) hf) (vx_cwSW 4 hu (gS u826 u827 u653 u828) rfl rfl rfl (by decide +kernel) ⟨(Nat.le_of_ble_eq_true rfl), (Nat.le_of_ble_eq_true rfl)⟩) ⟨tQ_blind, tQ_at hPx hK hev hdv (hZ.grown hS.1 hS.2.1)⟩ rfl rfl hl.1 rfl (lv_room (Nat.le_of_ble_eq_true rfl)) dL_law_1729 ⟨(Nat.le_of_ble_eq_true rfl), (Nat.le_of_ble_eq_true rfl)⟩) hS (fun q hq h => absurd h (Nat.not_le.mpr hq)) (fun q h => Nat.le_trans hS.1 h) (fun r1 u9 t H locs ht hvm hw hB hz1 hk1 hS => ?_)
  have hw : r1 = 1 := hw
  subst hw
  have hPm := px_kept hPm (fun a ha => hk1 a ha (Nat.not_le.mpr ha))
  refine W.widen (k := 341) (n := 146687) (Nat.le_of_ble_eq_true rfl) (Nat.le_of_ble_eq_true rfl) ?_
  refine lv_istore (lv' := [(5, .int 1), (4, .int 0), (3, .ref qo), (2, .ref qm), (1, .ref qx), (0, .ref b)]) hx hb dL_law_1732 hl (by decide) rfl (fun ls hl => ?_)
  refine lv_aload_n hx hb dL_law_1734 rfl (lv_at hl 3 rfl) ?_
  refine lv_aload_n hx hb dL_law_1735 rfl (lv_at hl 5 rfl) ?_
  refine lv_iload hx hb dL_law_1736 (lv_at hl 1 rfl) ?_
  refine lv_iconst (v := 1) hx hb dL_law_1738 (by decide) ?_
  refine lv_iadd hx hb dL_law_1739 ?_
  refine va_sld hx hb hX hbl hbA hS in_1 dL_law_1740 ?_
  refine lv_aload_n hx hb dL_law_1741 rfl (lv_at hl 5 rfl) ?_
  refine lv_iload hx hb dL_law_1742 (lv_at hl 1 rfl) ?_
  refine lv_iconst (v := 2) hx hb dL_law_1744 (by decide) ?_
  refine lv_iadd hx hb dL_law_1745 ?_
  refine va_sld hx hb hX hbl hbA hS in_2 dL_law_1746 ?_
  have hFc := va_free (wc := [(qm, .inr (15, ms))]) hDm hS hA [0] rfl
  refine va_calli (va_runV (As := [.int (xs ((0 : Int32) + 1).toNatClampNeg), .int (xs ((0 : Int32) + 2).toNatClampNeg)]) (rest := []) ⟨hx, hb, hml, hown, hu⟩ (m_X15_through l dC dI qm _ ms (xs ((0 : Int32) + 1).toNatClampNeg) (xs ((0 : Int32) + 2).toNatClampNeg) hm) (cwV 2 hu (gV u829 u830 u831 u236 u832) rfl rfl rfl (by decide +kernel) ⟨(Nat.le_of_ble_eq_true rfl), (Nat.le_of_ble_eq_true rfl)⟩) ⟨mP_blind, va_recv hK hPm (ci := 15) (q0 := 0) rfl rfl, mP_at hPm hK hDm⟩ rfl rfl hl.1 rfl (lv_room (Nat.le_of_ble_eq_true rfl)) dL_law_1747 ⟨(Nat.le_of_ble_eq_true rfl), (Nat.le_of_ble_eq_true rfl)⟩) hS (fun q _ h => hFc q h) hFc (fun r2 u9 t H locs ht hvm hw hB hz1 hk1 hS => ?_)
  have hw : r2 = 0 := hw
  subst hw
  have hPm : va_P (dC, dI) clx [(qm, .inr (15, (ms.set 0 (.int 1))))] t.heap := hB
  rw [ht] at hPm
  have hDm : va_D (nw s.heap.size) [(qm, .inr (15, (ms.set 0 (.int 1))))] := hDm.set (p := 0) rfl
  refine lv_istore (lv' := [(6, .int 0), (5, .int 1), (4, .int 0), (3, .ref qo), (2, .ref qm), (1, .ref qx), (0, .ref b)]) hx hb dL_law_1750 hl (by decide) rfl (fun ls hl => ?_)
  refine lv_aload_n hx hb dL_law_1752 rfl (lv_at hl 4 rfl) ?_
  refine va_calli (va_runV (As := []) (rest := []) ⟨hx, hb, hml, hown, hu⟩ (r_X15_thrown l dC dI qm _ (ms.set 0 (.int 1)) 1 (List.getElem?_set_self (by rw [hm.2.2.2.2.2]; decide))) (cwV 0 hu (gV u659 u660 u661 u236 u662) rfl rfl rfl (by decide +kernel) ⟨(Nat.le_of_ble_eq_true rfl), (Nat.le_of_ble_eq_true rfl)⟩) ⟨mP_blind, va_recv hK hPm (ci := 15) (q0 := 0) rfl rfl, mP_at hPm hK hDm⟩ rfl rfl hl.1 rfl (lv_room (Nat.le_of_ble_eq_true rfl)) dL_law_1753 ⟨(Nat.le_of_ble_eq_true rfl), (Nat.le_of_ble_eq_true rfl)⟩) hS (fun q hq h => absurd h (Nat.not_le.mpr hq)) (fun q h => Nat.le_trans hS.1 h) (fun r3 u9 t H locs ht hvm hw hB hz1 hk1 hS => ?_)
  have hw : r3 = 1 := hw
  subst hw
  refine lv_iload hx hb dL_law_1756 (lv_at hl 1 rfl) ?_
  refine lv_icmp_eq (tgt := 1763) hx hb dL_law_1758 (by decide) (fun _ => ?_) (fun h9 => absurd (by decide) h9)
  refine lv_iload hx hb dL_law_1763 (lv_at hl 1 rfl) ?_
  refine lv_if_ne (tgt := 1780) hx hb dL_law_1765 (by decide) (fun _ => ?_) (fun h9 => absurd h9 (by decide))
  refine lv_goto (tgt := 1833) hx hb dL_law_1780 (by decide) ?_
  exact law_next l C0 (Nat.le_of_ble_eq_true rfl) (Nat.le_of_ble_eq_true rfl) hS (lv_sub hl [2, 6] rfl)
set_option maxHeartbeats 4000000 in
set_option maxRecDepth 100000 in
theorem law_counted {p : Program} {e : Env} {s : State} {m : MethodId} {below : List Frame} {meth : Method} {c : Code} (l : Launch) (hst : l.stackTraces = false) {b : Nat} {xs : Nat → Int32} (C0 : lw_At p s m meth c b 4 xs) (hev : ev s) (hdv : dv s) (hZ : zz s.heap.size s s.heap) {dC : Nat → ClassId} {dI : Nat → Nat → Nat} {qx qm qo : Nat} {fs ms : List Value} {H : Heap} (hf : xF fs) (hm : mF ms) (hK : va_K (dC, dI) clx [] s) (hPx : va_P (dC, dI) clx [(qx, .inr (11, fs))] H) (hPm : va_P (dC, dI) clx [(qm, .inr (15, ms))] H) (hDm : va_D (nw s.heap.size) [(qm, .inr (15, ms))]) (hDx : va_D (nw s.heap.size) [(qx, .inr (11, fs))]) {locs : List Loc} (hS : va_S (nw s.heap.size) s.heap H locs) {ls : Array Slot} (hl : lv_has ls 8 [(4, .int 0), (3, .ref qo), (2, .ref qm), (1, .ref qx), (0, .ref b)]) : W p l e room_1 s m #[Value.ref b] below meth c H locs 340 146681 (lw_Z below #[Value.ref b] s) (F0 m 1783 ls []) := by
  obtain ⟨hx, hb, hr, hml, hown, hts, hX, hbl, hlocks, hgv⟩ := id C0
  have hu : ∀ w ∈ wU, w.before #[Value.ref b] s = true := fun w h => hts w (wU_sub h)
  have hown : s.vm.findClass RL = some m.cls := hown
  have hA : ∀ q : Nat, s.heap.size ≤ q → nw s.heap.size q := fun _ h => h
  have hbA : ¬ nw s.heap.size b := Nat.not_le.mpr hbl
  refine lv_aload_n hx hb dL_law_1783 rfl (lv_at hl 3 rfl) ?_
  refine lv_aload_n hx hb dL_law_1784 rfl (lv_at hl 4 rfl) ?_
  refine lv_iload hx hb dL_law_1785 (lv_at hl 0 rfl) ?_
  refine lv_iconst (v := 1) hx hb dL_law_1787 (by decide) ?_
  refine lv_iadd hx hb dL_law_1788 ?_
  refine va_sld hx hb hX hbl hbA hS in_1 dL_law_1789 ?_
  refine va_calli (va_runV (As := [.int (xs ((0 : Int32) + 1).toNatClampNeg)]) (rest := []) ⟨hx, hb, hml, hown, hu⟩ (r_X11_counted l dC dI qx _ fs (xs ((0 : Int32) + 1).toNatClampNeg) hf) (cwV 1 hu (gV u833 u834 u835 u432 u836) rfl rfl rfl (by decide +kernel) ⟨(Nat.le_of_ble_eq_true rfl), (Nat.le_of_ble_eq_true rfl)⟩) ⟨mP_blind, va_recv hK hPx (ci := 11) (q0 := 0) rfl rfl, mP_at hPx hK hDx⟩ rfl rfl hl.1 rfl (lv_room (Nat.le_of_ble_eq_true rfl)) dL_law_1790 ⟨(Nat.le_of_ble_eq_true rfl), (Nat.le_of_ble_eq_true rfl)⟩) hS (fun q hq h => absurd h (Nat.not_le.mpr hq)) (fun q h => Nat.le_trans hS.1 h) (fun r1 u9 t H locs ht hvm hw hB hz1 hk1 hS => ?_)
  have hw : r1 = (cnt (xs ((0 : Int32) + 1).toNatClampNeg)) := hw
  subst hw
  have hPm := px_kept hPm (fun a ha => hk1 a ha (Nat.not_le.mpr ha))
  refine W.widen (k := 340) (n := 146681) (Nat.le_of_ble_eq_true rfl) (Nat.le_of_ble_eq_true rfl) ?_
  refine lv_aload_n hx hb dL_law_1793 rfl (lv_at hl 2 rfl) ?_
  refine lv_aload_n hx hb dL_law_1794 rfl (lv_at hl 4 rfl) ?_
  refine lv_iload hx hb dL_law_1795 (lv_at hl 0 rfl) ?_
  refine lv_iconst (v := 1) hx hb dL_law_1797 (by decide) ?_
  refine lv_iadd hx hb dL_law_1798 ?_
  refine va_sld hx hb hX hbl hbA hS in_1 dL_law_1799 ?_
  have hFc := va_free (wc := [(qm, .inr (15, ms))]) hDm hS hA [0] rfl
  refine va_calli (va_runV (As := [.int (xs ((0 : Int32) + 1).toNatClampNeg)]) (rest := [.int (cnt (xs ((0 : Int32) + 1).toNatClampNeg))]) ⟨hx, hb, hml, hown, hu⟩ (m_X15_counted l dC dI qm _ ms (xs ((0 : Int32) + 1).toNatClampNeg) hm) (cwV 1 hu (gV u837 u838 u839 u236 u840) rfl rfl rfl (by decide +kernel) ⟨(Nat.le_of_ble_eq_true rfl), (Nat.le_of_ble_eq_true rfl)⟩) ⟨mP_blind, va_recv hK hPm (ci := 15) (q0 := 0) rfl rfl, mP_at hPm hK hDm⟩ rfl rfl hl.1 rfl (lv_room (Nat.le_of_ble_eq_true rfl)) dL_law_1800 ⟨(Nat.le_of_ble_eq_true rfl), (Nat.le_of_ble_eq_true rfl)⟩) hS (fun q _ h => hFc q h) hFc (fun r1 u9 t H locs ht hvm hw hB hz1 hk1 hS => ?_)
  have hw : r1 = (cnt (xs ((0 : Int32) + 1).toNatClampNeg)) := hw
  subst hw
  have hPm : va_P (dC, dI) clx [(qm, .inr (15, (ms.set 0 (.int 0))))] t.heap := hB
  rw [ht] at hPm
  have hDm : va_D (nw s.heap.size) [(qm, .inr (15, (ms.set 0 (.int 0))))] := hDm.set (p := 0) rfl
  refine lv_icmp_eq (tgt := 1833) hx hb dL_law_1803 (by decide) (fun _ => ?_) (fun h9 => absurd rfl h9)
  exact law_next l C0 (Nat.le_of_ble_eq_true rfl) (Nat.le_of_ble_eq_true rfl) hS (lv_sub hl [0, 4] rfl)
set_option maxHeartbeats 4000000 in
set_option maxRecDepth 100000 in
theorem law_octet {p : Program} {e : Env} {s : State} {m : MethodId} {below : List Frame} {meth : Method} {c : Code} (l : Launch) (hst : l.stackTraces = false) {b : Nat} {xs : Nat → Int32} (C0 : lw_At p s m meth c b 4 xs) (hev : ev s) (hdv : dv s) (hZ : zz s.heap.size s s.heap) {dC : Nat → ClassId} {dI : Nat → Nat → Nat} {qx qm qo : Nat} {fs ms : List Value} {H : Heap} (hf : xF fs) (hm : mF ms) (hK : va_K (dC, dI) clx [] s) (hPx : va_P (dC, dI) clx [(qx, .inr (11, fs))] H) (hPm : va_P (dC, dI) clx [(qm, .inr (15, ms))] H) (hDm : va_D (nw s.heap.size) [(qm, .inr (15, ms))]) (hDx : va_D (nw s.heap.size) [(qx, .inr (11, fs))]) {locs : List Loc} (hS : va_S (nw s.heap.size) s.heap H locs) {ls : Array Slot} (hl : lv_has ls 8 [(4, .int 0), (3, .ref qo), (2, .ref qm), (1, .ref qx), (0, .ref b)]) : W p l e room_1 s m #[Value.ref b] below meth c H locs 340 146681 (lw_Z below #[Value.ref b] s) (F0 m 1808 ls []) := by
  obtain ⟨hx, hb, hr, hml, hown, hts, hX, hbl, hlocks, hgv⟩ := id C0
  have hu : ∀ w ∈ wU, w.before #[Value.ref b] s = true := fun w h => hts w (wU_sub h)
  have hown : s.vm.findClass RL = some m.cls := hown
  have hA : ∀ q : Nat, s.heap.size ≤ q → nw s.heap.size q := fun _ h => h
  have hbA : ¬ nw s.heap.size b := Nat.not_le.mpr hbl
  refine lv_aload_n hx hb dL_law_1808 rfl (lv_at hl 3 rfl) ?_
  refine lv_aload_n hx hb dL_law_1809 rfl (lv_at hl 4 rfl) ?_
  refine lv_iload hx hb dL_law_1810 (lv_at hl 0 rfl) ?_
  refine lv_iconst (v := 1) hx hb dL_law_1812 (by decide) ?_
  refine lv_iadd hx hb dL_law_1813 ?_
  refine va_sld hx hb hX hbl hbA hS in_1 dL_law_1814 ?_
  refine va_calli (va_runV (As := [.int (xs ((0 : Int32) + 1).toNatClampNeg)]) (rest := []) ⟨hx, hb, hml, hown, hu⟩ (r_X11_octet l dC dI qx _ fs (xs ((0 : Int32) + 1).toNatClampNeg) hf) (cwV 1 hu (gV u841 u842 u843 u432 u844) rfl rfl rfl (by decide +kernel) ⟨(Nat.le_of_ble_eq_true rfl), (Nat.le_of_ble_eq_true rfl)⟩) ⟨mP_blind, va_recv hK hPx (ci := 11) (q0 := 0) rfl rfl, mP_at hPx hK hDx⟩ rfl rfl hl.1 rfl (lv_room (Nat.le_of_ble_eq_true rfl)) dL_law_1815 ⟨(Nat.le_of_ble_eq_true rfl), (Nat.le_of_ble_eq_true rfl)⟩) hS (fun q hq h => absurd h (Nat.not_le.mpr hq)) (fun q h => Nat.le_trans hS.1 h) (fun r1 u9 t H locs ht hvm hw hB hz1 hk1 hS => ?_)
  have hw : r1 = (-1) := hw
  subst hw
  have hPm := px_kept hPm (fun a ha => hk1 a ha (Nat.not_le.mpr ha))
  refine W.widen (k := 340) (n := 146681) (Nat.le_of_ble_eq_true rfl) (Nat.le_of_ble_eq_true rfl) ?_
  refine lv_aload_n hx hb dL_law_1818 rfl (lv_at hl 2 rfl) ?_
  refine lv_aload_n hx hb dL_law_1819 rfl (lv_at hl 4 rfl) ?_
  refine lv_iload hx hb dL_law_1820 (lv_at hl 0 rfl) ?_
  refine lv_iconst (v := 1) hx hb dL_law_1822 (by decide) ?_
  refine lv_iadd hx hb dL_law_1823 ?_
  refine va_sld hx hb hX hbl hbA hS in_1 dL_law_1824 ?_
  have hFc := va_free (wc := [(qm, .inr (15, ms))]) hDm hS hA [0] rfl
  refine va_calli (va_runV (As := [.int (xs ((0 : Int32) + 1).toNatClampNeg)]) (rest := [.int (-1)]) ⟨hx, hb, hml, hown, hu⟩ (m_X15_octet l dC dI qm _ ms (xs ((0 : Int32) + 1).toNatClampNeg) hm) (cwV 1 hu (gV u845 u846 u847 u236 u848) rfl rfl rfl (by decide +kernel) ⟨(Nat.le_of_ble_eq_true rfl), (Nat.le_of_ble_eq_true rfl)⟩) ⟨mP_blind, va_recv hK hPm (ci := 15) (q0 := 0) rfl rfl, mP_at hPm hK hDm⟩ rfl rfl hl.1 rfl (lv_room (Nat.le_of_ble_eq_true rfl)) dL_law_1825 ⟨(Nat.le_of_ble_eq_true rfl), (Nat.le_of_ble_eq_true rfl)⟩) hS (fun q _ h => hFc q h) hFc (fun r1 u9 t H locs ht hvm hw hB hz1 hk1 hS => ?_)
  have hw : r1 = (-1) := hw
  subst hw
  have hPm : va_P (dC, dI) clx [(qm, .inr (15, (ms.set 0 (.int 0))))] t.heap := hB
  rw [ht] at hPm
  have hDm : va_D (nw s.heap.size) [(qm, .inr (15, (ms.set 0 (.int 0))))] := hDm.set (p := 0) rfl
  refine lv_icmp_eq (tgt := 1833) hx hb dL_law_1828 (by decide) (fun _ => ?_) (fun h9 => absurd rfl h9)
  exact law_next l C0 (Nat.le_of_ble_eq_true rfl) (Nat.le_of_ble_eq_true rfl) hS (lv_sub hl [0, 4] rfl)
set_option maxHeartbeats 4000000 in
set_option maxRecDepth 100000 in
theorem law_cubic {p : Program} {e : Env} {s : State} {m : MethodId} {below : List Frame} {meth : Method} {c : Code} (l : Launch) (hst : l.stackTraces = false) {b : Nat} {xs : Nat → Int32} (C0 : lw_At p s m meth c b 4 xs) (hev : ev s) (hdv : dv s) (hZ : zz s.heap.size s s.heap) {dC : Nat → ClassId} {dI : Nat → Nat → Nat} {qx qm qo : Nat} {fs ms : List Value} {H : Heap} {qc q1 q2 q3 q4 q5 q6 : Nat} {cC cO y1 y2 y3 y4 y5 y6 : ClassId} (hg : xG fs qc) (hm : mOK ms q1 q2 q3 q4 q5 q6) (hK : va_K (dC, dI) clx [(cC, .object RX2), (cO, .long), (y1, .long), (y2, .long), (y3, .int), (y4, .int), (y5, .boolean), (y6, .boolean)] s) (hP : va_P (dC, dI) clx [(qx, .inr (11, fs)), (qc, .inl (cC, 40, .inr (.inr (.inr (.inr (fun _ => none)))))), (qo, .inl (cO, 1, .inr (.inl (fun _ => 0)))), (qm, .inr (15, ms)), (q1, .inl (y1, 40, .inr (.inl (fun _ => 0)))), (q2, .inl (y2, 40, .inr (.inl (fun _ => 0)))), (q3, .inl (y3, 40, .inl (fun _ => 0))), (q4, .inl (y4, 40, .inl (fun _ => 0))), (q5, .inl (y5, 40, .inl (fun _ => 0))), (q6, .inl (y6, 40, .inl (fun _ => 0)))] H) (hD : va_D (nw s.heap.size) [(qx, .inr (11, fs)), (qc, .inl (cC, 40, .inr (.inr (.inr (.inr (fun _ => none)))))), (qo, .inl (cO, 1, .inr (.inl (fun _ => 0)))), (qm, .inr (15, ms)), (q1, .inl (y1, 40, .inr (.inl (fun _ => 0)))), (q2, .inl (y2, 40, .inr (.inl (fun _ => 0)))), (q3, .inl (y3, 40, .inl (fun _ => 0))), (q4, .inl (y4, 40, .inl (fun _ => 0))), (q5, .inl (y5, 40, .inl (fun _ => 0))), (q6, .inl (y6, 40, .inl (fun _ => 0)))]) {locs : List Loc} (hS : va_S (nw s.heap.size) s.heap H locs) {ls : Array Slot} (hl : lv_has ls 8 [(4, .int 0), (3, .ref qo), (2, .ref qm), (1, .ref qx), (0, .ref b)]) : W p l e room_1 s m #[Value.ref b] below meth c H locs 340 146681 (lw_Z below #[Value.ref b] s) (F0 m 164 ls []) := by
  obtain ⟨hx, hb, hr, hml, hown, hts, hX, hbl, hlocks, hgv⟩ := id C0
  have hu : ∀ w ∈ wU, w.before #[Value.ref b] s = true := fun w h => hts w (wU_sub h)
  have hown : s.vm.findClass RL = some m.cls := hown
  have hA : ∀ q : Nat, s.heap.size ≤ q → nw s.heap.size q := fun _ h => h
  have hbA : ¬ nw s.heap.size b := Nat.not_le.mpr hbl
  refine lv_aload_n hx hb dL_law_164 rfl (lv_at hl 3 rfl) ?_
  refine lv_aload_n hx hb dL_law_165 rfl (lv_at hl 4 rfl) ?_
  refine lv_iload hx hb dL_law_166 (lv_at hl 0 rfl) ?_
  refine lv_iconst (v := 1) hx hb dL_law_168 (by decide) ?_
  refine lv_iadd hx hb dL_law_169 ?_
  refine va_sld hx hb hX hbl hbA hS in_1 dL_law_170 ?_
  refine lv_aload_n hx hb dL_law_171 rfl (lv_at hl 4 rfl) ?_
  refine lv_iload hx hb dL_law_172 (lv_at hl 0 rfl) ?_
  refine lv_iconst (v := 2) hx hb dL_law_174 (by decide) ?_
  refine lv_iadd hx hb dL_law_175 ?_
  refine va_sld hx hb hX hbl hbA hS in_2 dL_law_176 ?_
  refine lv_aload_n hx hb dL_law_177 rfl (lv_at hl 1 rfl) ?_
  by_cases hbd : bad (xs ((0 : Int32) + 1).toNatClampNeg) (xs ((0 : Int32) + 2).toNatClampNeg)
  · skip
    have hPx : va_P (dC, dI) clx [(qx, .inr (11, fs))] H := hP.sub [0] rfl
    have hPm : va_P (dC, dI) clx [(qm, .inr (15, ms))] H := hP.sub [3] rfl
    have hDm : va_D (nw s.heap.size) [(qm, .inr (15, ms))] := hD.sub [3] (by decide) rfl
    have hK := hK.sub (tys' := []) [] rfl
    refine va_calli (vx_runSW (As := [.ref qx, .int (xs ((0 : Int32) + 1).toNatClampNeg), .int (xs ((0 : Int32) + 2).toNatClampNeg), .ref qo]) (rest := []) ⟨hx, hb, hml, hown, hu⟩ (bad_L_cubic l hst dC dI qx _ qo fs (xs ((0 : Int32) + 1).toNatClampNeg) (xs ((0 : Int32) + 2).toNatClampNeg) hbd) (vx_cwSW 4 hu (gS u849 u850 u653 u851) rfl rfl rfl (by decide +kernel) ⟨(Nat.le_of_ble_eq_true rfl), (Nat.le_of_ble_eq_true rfl)⟩) ⟨tQ_blind, tQ_at hPx hK hev hdv (hZ.grown hS.1 hS.2.1)⟩ rfl rfl hl.1 rfl (lv_room (Nat.le_of_ble_eq_true rfl)) dL_law_178 ⟨(Nat.le_of_ble_eq_true rfl), (Nat.le_of_ble_eq_true rfl)⟩) hS (fun q hq h => absurd h (Nat.not_le.mpr hq)) (fun q h => Nat.le_trans hS.1 h) (fun r1 u9 t H locs ht hvm hw hB hz1 hk1 hS => ?_)
    have hw : r1 = 1 := hw
    subst hw
    have hPm := px_kept hPm (fun a ha => hk1 a ha (Nat.not_le.mpr ha))
    refine W.widen (k := 341) (n := 146687) (Nat.le_of_ble_eq_true rfl) (Nat.le_of_ble_eq_true rfl) ?_
    refine lv_istore (lv' := [(5, .int 1), (4, .int 0), (3, .ref qo), (2, .ref qm), (1, .ref qx), (0, .ref b)]) hx hb dL_law_181 hl (by decide) rfl (fun ls hl => ?_)
    refine lv_aload_n hx hb dL_law_183 rfl (lv_at hl 3 rfl) ?_
    refine lv_aload_n hx hb dL_law_184 rfl (lv_at hl 5 rfl) ?_
    refine lv_iload hx hb dL_law_185 (lv_at hl 1 rfl) ?_
    refine lv_iconst (v := 1) hx hb dL_law_187 (by decide) ?_
    refine lv_iadd hx hb dL_law_188 ?_
    refine va_sld hx hb hX hbl hbA hS in_1 dL_law_189 ?_
    refine lv_aload_n hx hb dL_law_190 rfl (lv_at hl 5 rfl) ?_
    refine lv_iload hx hb dL_law_191 (lv_at hl 1 rfl) ?_
    refine lv_iconst (v := 2) hx hb dL_law_193 (by decide) ?_
    refine lv_iadd hx hb dL_law_194 ?_
    refine va_sld hx hb hX hbl hbA hS in_2 dL_law_195 ?_
    have hFc := va_free (wc := [(qm, .inr (15, ms))]) hDm hS hA [0] rfl
    refine va_calli (va_runV (As := [.int (xs ((0 : Int32) + 1).toNatClampNeg), .int (xs ((0 : Int32) + 2).toNatClampNeg)]) (rest := []) ⟨hx, hb, hml, hown, hu⟩ (bad_X15_cubic l dC dI qm _ ms (xs ((0 : Int32) + 1).toNatClampNeg) (xs ((0 : Int32) + 2).toNatClampNeg) hm.2.2.2.2.2.2.2.2.2.2.2.2 hbd) (cwV 2 hu (gV u852 u853 u854 u236 u855) rfl rfl rfl (by decide +kernel) ⟨(Nat.le_of_ble_eq_true rfl), (Nat.le_of_ble_eq_true rfl)⟩) ⟨mP_blind, va_recv hK hPm (ci := 15) (q0 := 0) rfl rfl, mP_at hPm hK hDm⟩ rfl rfl hl.1 rfl (lv_room (Nat.le_of_ble_eq_true rfl)) dL_law_196 ⟨(Nat.le_of_ble_eq_true rfl), (Nat.le_of_ble_eq_true rfl)⟩) hS (fun q _ h => hFc q h) hFc (fun r2 u9 t H locs ht hvm hw hB hz1 hk1 hS => ?_)
    obtain ⟨hw, hu0⟩ := hw
    have hw : r2 = 0 := hw
    subst hw
    have hPm : va_P (dC, dI) clx [(qm, .inr (15, u9))] t.heap := hB
    rw [ht] at hPm
    have hDm : va_D (nw s.heap.size) [(qm, .inr (15, u9))] := hDm.set (p := 0) rfl
    refine lv_istore (lv' := [(6, .int 0), (5, .int 1), (4, .int 0), (3, .ref qo), (2, .ref qm), (1, .ref qx), (0, .ref b)]) hx hb dL_law_199 hl (by decide) rfl (fun ls hl => ?_)
    refine lv_aload_n hx hb dL_law_201 rfl (lv_at hl 4 rfl) ?_
    refine va_calli (va_runV (As := []) (rest := []) ⟨hx, hb, hml, hown, hu⟩ (r_X15_thrown l dC dI qm _ u9 1 hu0) (cwV 0 hu (gV u659 u660 u661 u236 u662) rfl rfl rfl (by decide +kernel) ⟨(Nat.le_of_ble_eq_true rfl), (Nat.le_of_ble_eq_true rfl)⟩) ⟨mP_blind, va_recv hK hPm (ci := 15) (q0 := 0) rfl rfl, mP_at hPm hK hDm⟩ rfl rfl hl.1 rfl (lv_room (Nat.le_of_ble_eq_true rfl)) dL_law_202 ⟨(Nat.le_of_ble_eq_true rfl), (Nat.le_of_ble_eq_true rfl)⟩) hS (fun q hq h => absurd h (Nat.not_le.mpr hq)) (fun q h => Nat.le_trans hS.1 h) (fun r3 u9 t H locs ht hvm hw hB hz1 hk1 hS => ?_)
    have hw : r3 = 1 := hw
    subst hw
    refine lv_iload hx hb dL_law_205 (lv_at hl 1 rfl) ?_
    refine lv_icmp_eq (tgt := 212) hx hb dL_law_207 (by decide) (fun _ => ?_) (fun h9 => absurd (by decide) h9)
    refine lv_iload hx hb dL_law_212 (lv_at hl 1 rfl) ?_
    refine lv_if_ne (tgt := 229) hx hb dL_law_214 (by decide) (fun _ => ?_) (fun h9 => absurd h9 (by decide))
    refine lv_goto (tgt := 1833) hx hb dL_law_229 (by decide) ?_
    exact law_next l C0 (Nat.le_of_ble_eq_true rfl) (Nat.le_of_ble_eq_true rfl) hS (lv_sub hl [2, 6] rfl)
  · skip
    have hPc := hP.sub (ws' := [(qx, .inr (11, fs)), (qc, .inl (cC, 40, .inr (.inr (.inr (.inr (fun _ => none)))))), (qo, .inl (cO, 1, .inr (.inl (fun _ => 0))))]) [0, 1, 2] rfl
    have hDc := hD.sub (ws' := [(qx, .inr (11, fs)), (qc, .inl (cC, 40, .inr (.inr (.inr (.inr (fun _ => none)))))), (qo, .inl (cO, 1, .inr (.inl (fun _ => 0))))]) [0, 1, 2] (by decide) rfl
    have hKc := hK.sub (tys' := [(cC, .object RX2), (cO, .long)]) [0, 1] rfl
    have hFc := va_free (wc := [(qx, .inr (11, fs)), (qc, .inl (cC, 40, .inr (.inr (.inr (.inr (fun _ => none)))))), (qo, .inl (cO, 1, .inr (.inl (fun _ => 0))))]) hD hS hA [0, 1, 2] rfl
    refine va_calli (vx_runSW (As := [.ref qx, .int (xs ((0 : Int32) + 1).toNatClampNeg), .int (xs ((0 : Int32) + 2).toNatClampNeg), .ref qo]) (rest := []) ⟨hx, hb, hml, hown, hu⟩ (good_L_cubic l dC dI qx _ qo fs qc cC cO (xs ((0 : Int32) + 1).toNatClampNeg) (xs ((0 : Int32) + 2).toNatClampNeg) hg hbd) (vx_cwSW 4 hu (gS u849 u850 u653 u851) rfl rfl rfl (by decide +kernel) ⟨(Nat.le_of_ble_eq_true rfl), (Nat.le_of_ble_eq_true rfl)⟩) ⟨kP_blind, kP_at hPc hKc hDc hev⟩ rfl rfl hl.1 rfl (lv_room (Nat.le_of_ble_eq_true rfl)) dL_law_178 ⟨(Nat.le_of_ble_eq_true rfl), (Nat.le_of_ble_eq_true rfl)⟩) hS (fun q _ h => hFc q h) hFc (fun r1 g9 t H1 locs ht hvm hw hB hz1 hk1 hS => ?_)
    obtain ⟨hw, hg0⟩ := hw
    have hw : r1 = 0 := hw
    subst hw
    have hB : va_P (dC, dI) clx [(qo, .inl (cO, 1, .inr (.inl g9)))] t.heap := hB
    rw [ht] at hB
    obtain ⟨hP, hD⟩ := va_join (wr := [(qm, .inr (15, ms)), (q1, .inl (y1, 40, .inr (.inl (fun _ => 0)))), (q2, .inl (y2, 40, .inr (.inl (fun _ => 0)))), (q3, .inl (y3, 40, .inl (fun _ => 0))), (q4, .inl (y4, 40, .inl (fun _ => 0))), (q5, .inl (y5, 40, .inl (fun _ => 0))), (q6, .inl (y6, 40, .inl (fun _ => 0)))]) (w1 := [(qo, .inl (cO, 1, .inr (.inl g9)))]) hP hD [0, 1, 2] [3, 4, 5, 6, 7, 8, 9] rfl rfl (by decide) (by decide) hk1 hFc hB (va_D9 qo _ (va_A.in (k := 2) (q := (qo, .inl (cO, 1, .inr (.inl (fun _ => 0))))) rfl))
    generalize H1 = H at hP hS ⊢
    have hP : va_P (dC, dI) clx [(qm, .inr (15, ms)), (q1, .inl (y1, 40, .inr (.inl (fun _ => 0)))), (q2, .inl (y2, 40, .inr (.inl (fun _ => 0)))), (q3, .inl (y3, 40, .inl (fun _ => 0))), (q4, .inl (y4, 40, .inl (fun _ => 0))), (q5, .inl (y5, 40, .inl (fun _ => 0))), (q6, .inl (y6, 40, .inl (fun _ => 0))), (qo, .inl (cO, 1, .inr (.inl g9)))] H := hP
    have hD : va_D (nw s.heap.size) [(qm, .inr (15, ms)), (q1, .inl (y1, 40, .inr (.inl (fun _ => 0)))), (q2, .inl (y2, 40, .inr (.inl (fun _ => 0)))), (q3, .inl (y3, 40, .inl (fun _ => 0))), (q4, .inl (y4, 40, .inl (fun _ => 0))), (q5, .inl (y5, 40, .inl (fun _ => 0))), (q6, .inl (y6, 40, .inl (fun _ => 0))), (qo, .inl (cO, 1, .inr (.inl g9)))] := hD
    refine W.widen (k := 341) (n := 146685) (Nat.le_of_ble_eq_true rfl) (Nat.le_of_ble_eq_true rfl) ?_
    refine lv_istore (lv' := [(5, .int 0), (4, .int 0), (3, .ref qo), (2, .ref qm), (1, .ref qx), (0, .ref b)]) hx hb dL_law_181 hl (by decide) rfl (fun ls hl => ?_)
    refine lv_aload_n hx hb dL_law_183 rfl (lv_at hl 3 rfl) ?_
    refine lv_aload_n hx hb dL_law_184 rfl (lv_at hl 5 rfl) ?_
    refine lv_iload hx hb dL_law_185 (lv_at hl 1 rfl) ?_
    refine lv_iconst (v := 1) hx hb dL_law_187 (by decide) ?_
    refine lv_iadd hx hb dL_law_188 ?_
    refine va_sld hx hb hX hbl hbA hS in_1 dL_law_189 ?_
    refine lv_aload_n hx hb dL_law_190 rfl (lv_at hl 5 rfl) ?_
    refine lv_iload hx hb dL_law_191 (lv_at hl 1 rfl) ?_
    refine lv_iconst (v := 2) hx hb dL_law_193 (by decide) ?_
    refine lv_iadd hx hb dL_law_194 ?_
    refine va_sld hx hb hX hbl hbA hS in_2 dL_law_195 ?_
    have hPc := hP.sub (ws' := [(qm, .inr (15, ms)), (q1, .inl (y1, 40, .inr (.inl (fun _ => 0)))), (q2, .inl (y2, 40, .inr (.inl (fun _ => 0)))), (q3, .inl (y3, 40, .inl (fun _ => 0))), (q4, .inl (y4, 40, .inl (fun _ => 0))), (q5, .inl (y5, 40, .inl (fun _ => 0))), (q6, .inl (y6, 40, .inl (fun _ => 0)))]) [0, 1, 2, 3, 4, 5, 6] rfl
    have hDc := hD.sub (ws' := [(qm, .inr (15, ms)), (q1, .inl (y1, 40, .inr (.inl (fun _ => 0)))), (q2, .inl (y2, 40, .inr (.inl (fun _ => 0)))), (q3, .inl (y3, 40, .inl (fun _ => 0))), (q4, .inl (y4, 40, .inl (fun _ => 0))), (q5, .inl (y5, 40, .inl (fun _ => 0))), (q6, .inl (y6, 40, .inl (fun _ => 0)))]) [0, 1, 2, 3, 4, 5, 6] (by decide) rfl
    have hKc := hK.sub (tys' := [(y1, .long), (y2, .long), (y3, .int), (y4, .int), (y5, .boolean), (y6, .boolean)]) [2, 3, 4, 5, 6, 7] rfl
    have hFc := va_free (wc := [(qm, .inr (15, ms)), (q1, .inl (y1, 40, .inr (.inl (fun _ => 0)))), (q2, .inl (y2, 40, .inr (.inl (fun _ => 0)))), (q3, .inl (y3, 40, .inl (fun _ => 0))), (q4, .inl (y4, 40, .inl (fun _ => 0))), (q5, .inl (y5, 40, .inl (fun _ => 0))), (q6, .inl (y6, 40, .inl (fun _ => 0)))]) hD hS hA [0, 1, 2, 3, 4, 5, 6] rfl
    refine va_calli (va_runV (As := [.int (xs ((0 : Int32) + 1).toNatClampNeg), .int (xs ((0 : Int32) + 2).toNatClampNeg)]) (rest := []) ⟨hx, hb, hml, hown, hu⟩ (good_X15_cubic l dC dI qm _ ms q1 q2 q3 q4 q5 q6 y1 y2 y3 y4 y5 y6 (xs ((0 : Int32) + 1).toNatClampNeg) (xs ((0 : Int32) + 2).toNatClampNeg) hm hbd) (cwV 2 hu (gV u852 u853 u854 u236 u855) rfl rfl rfl (by decide +kernel) ⟨(Nat.le_of_ble_eq_true rfl), (Nat.le_of_ble_eq_true rfl)⟩) ⟨mP_blind, va_recv hKc hPc (ci := 15) (q0 := 0) rfl rfl, mP_at hPc hKc hDc⟩ rfl rfl hl.1 rfl (lv_room (Nat.le_of_ble_eq_true rfl)) dL_law_196 ⟨(Nat.le_of_ble_eq_true rfl), (Nat.le_of_ble_eq_true rfl)⟩) hS (fun q _ h => hFc q h) hFc (fun r2 u9 t H1 locs ht hvm hw hB hz1 hk1 hS => ?_)
    obtain ⟨hw, hu0⟩ := hw
    have hw : r2 = rs (xs ((0 : Int32) + 1).toNatClampNeg) (xs ((0 : Int32) + 2).toNatClampNeg) := hw
    subst hw
    have hB : va_P (dC, dI) clx [(qm, .inr (15, u9))] t.heap := hB
    rw [ht] at hB
    obtain ⟨hP, hD⟩ := va_join (wr := [(qo, .inl (cO, 1, .inr (.inl g9)))]) (w1 := [(qm, .inr (15, u9))]) hP hD [0, 1, 2, 3, 4, 5, 6] [7] rfl rfl (by decide) (by decide) hk1 hFc hB (va_D9 qm _ (va_A.in (k := 0) (q := (qm, .inr (15, ms))) rfl))
    generalize H1 = H at hP hS ⊢
    have hP : va_P (dC, dI) clx [(qo, .inl (cO, 1, .inr (.inl g9))), (qm, .inr (15, u9))] H := hP
    have hD : va_D (nw s.heap.size) [(qo, .inl (cO, 1, .inr (.inl g9))), (qm, .inr (15, u9))] := hD
    have hPm := hP.sub (ws' := [(qm, .inr (15, u9))]) [1] rfl
    have hDm := hD.sub (ws' := [(qm, .inr (15, u9))]) [1] (by decide) rfl
    have hK9 := hK
    have hK := hK.sub (tys' := []) [] rfl
    refine lv_istore (lv' := [(6, .int (rs (xs ((0 : Int32) + 1).toNatClampNeg) (xs ((0 : Int32) + 2).toNatClampNeg))), (5, .int 0), (4, .int 0), (3, .ref qo), (2, .ref qm), (1, .ref qx), (0, .ref b)]) hx hb dL_law_199 hl (by decide) rfl (fun ls hl => ?_)
    refine lv_aload_n hx hb dL_law_201 rfl (lv_at hl 4 rfl) ?_
    have hP9 := hP
    refine va_calli (va_runV (As := []) (rest := []) ⟨hx, hb, hml, hown, hu⟩ (r_X15_thrown l dC dI qm _ u9 0 hu0) (cwV 0 hu (gV u659 u660 u661 u236 u662) rfl rfl rfl (by decide +kernel) ⟨(Nat.le_of_ble_eq_true rfl), (Nat.le_of_ble_eq_true rfl)⟩) ⟨mP_blind, va_recv hK hPm (ci := 15) (q0 := 0) rfl rfl, mP_at hPm hK hDm⟩ rfl rfl hl.1 rfl (lv_room (Nat.le_of_ble_eq_true rfl)) dL_law_202 ⟨(Nat.le_of_ble_eq_true rfl), (Nat.le_of_ble_eq_true rfl)⟩) hS (fun q hq h => absurd h (Nat.not_le.mpr hq)) (fun q h => Nat.le_trans hS.1 h) (fun r1 u9 t H locs ht hvm hw hB hz1 hk1 hS => ?_)
    have hw : r1 = 0 := hw
    subst hw
    have hP := px_kept hP9 (fun a ha => hk1 a ha (Nat.not_le.mpr ha))
    refine lv_iload hx hb dL_law_205 (lv_at hl 1 rfl) ?_
    refine lv_icmp_eq (tgt := 212) hx hb dL_law_207 (by decide) (fun _ => ?_) (fun h9 => absurd (by decide) h9)
    refine lv_iload hx hb dL_law_212 (lv_at hl 1 rfl) ?_
    refine lv_if_ne (tgt := 229) hx hb dL_law_214 (by decide) (fun h9 => absurd (by decide) h9) (fun _ => ?_)
    refine lv_aload_n hx hb dL_law_217 rfl (lv_at hl 3 rfl) ?_
    refine lv_iconst (v := 0) hx hb dL_law_218 (by decide) ?_
    refine va_lald hx hb hK9 hP 0 1 rfl rfl (by unfold vp_in; decide) dL_law_219 ?_
    refine lv_iload hx hb dL_law_220 (lv_at hl 0 rfl) ?_
    refine lv_i2l hx hb dL_law_222 rfl ?_
    refine W.lcmp hx hb dL_law_223 ?_
    refine lv_if_eq (tgt := 229) hx hb dL_law_224 (by decide) (fun _ => ?_) (fun h9 => absurd ((lg_cmp_eq _ _).mpr hg0) h9)
    refine lv_goto (tgt := 1833) hx hb dL_law_229 (by decide) ?_
    exact law_next l C0 (Nat.le_of_ble_eq_true rfl) (Nat.le_of_ble_eq_true rfl) hS (lv_sub hl [2, 6] rfl)
