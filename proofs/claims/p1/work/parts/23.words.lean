theorem u856 : (Cond.classLink RL 8 RX11) ∈ wU := wU_1 36 rfl rfl
theorem u857 : (Cond.instantiable RX11 16) ∈ wU := wU_1 37 rfl rfl
theorem u858 : (Cond.code yX11_init cX11_init 1 none) ∈ wU := wU_1 40 rfl rfl
theorem u859 : (Cond.methodLink RL 91 yX11_init) ∈ wU := wU_1 38 rfl rfl
theorem u860 : (Cond.instanceMethod yX11_init) ∈ wU := wU_1 39 rfl rfl
theorem u861 : (Cond.classLink RL 92 RX15) ∈ wU := wU_7 236 rfl rfl
theorem u862 : (Cond.instantiable RX15 74) ∈ wU := wU_7 237 rfl rfl
theorem u863 : (Cond.code yX15_init cX15_init 1 none) ∈ wU := wU_8 0 rfl rfl
theorem u864 : (Cond.methodLink RL 94 yX15_init) ∈ wU := wU_7 238 rfl rfl
theorem u865 : (Cond.instanceMethod yX15_init) ∈ wU := wU_7 239 rfl rfl
theorem dL_law_0 : decode cL_law 0 = .ok (.new 8, 3) := by decide +kernel
theorem dL_law_3 : decode cL_law 3 = .ok (.dup, 1) := by decide +kernel
theorem dL_law_4 : decode cL_law 4 = .ok (.invokespecial 91, 3) := by decide +kernel
theorem dL_law_7 : decode cL_law 7 = .ok (.astore_n 1, 1) := by decide +kernel
theorem dL_law_8 : decode cL_law 8 = .ok (.new 92, 3) := by decide +kernel
theorem dL_law_11 : decode cL_law 11 = .ok (.dup, 1) := by decide +kernel
theorem dL_law_12 : decode cL_law 12 = .ok (.invokespecial 94, 3) := by decide +kernel
theorem dL_law_15 : decode cL_law 15 = .ok (.astore_n 2, 1) := by decide +kernel
theorem dL_law_16 : decode cL_law 16 = .ok (.iconst 1, 1) := by decide +kernel
theorem dL_law_17 : decode cL_law 17 = .ok (.newarray .long, 2) := by decide +kernel
theorem dL_law_19 : decode cL_law 19 = .ok (.astore_n 3, 1) := by decide +kernel
theorem dL_law_20 : decode cL_law 20 = .ok (.iconst 0, 1) := by decide +kernel
theorem dL_law_21 : decode cL_law 21 = .ok (.istore 4, 2) := by decide +kernel
theorem dL_law_32 : decode cL_law 32 = .ok (.aload_n 0, 1) := by decide +kernel
theorem dL_law_33 : decode cL_law 33 = .ok (.iload 4, 2) := by decide +kernel
theorem dL_law_35 : decode cL_law 35 = .ok (.iaload, 1) := by decide +kernel
theorem dL_law_36 : decode cL_law 36 = .ok (.bipush 31, 2) := by decide +kernel
theorem dL_law_38 : decode cL_law 38 = .ok (.iand, 1) := by decide +kernel
theorem dL_law_39 : decode cL_law 39 = .ok (.tableswitch 1794 0 27 #[125, 193, 261, 317, 384, 440, 520, 588, 644, 712, 768, 836, 904, 960, 1028, 1096, 1163, 1219, 1286, 1354, 1422, 1502, 1570, 1595, 1620, 1676, 1744, 1769], 125) := by decide +kernel
theorem lw_k1 {w : Cond} (i : Nat) (h : tables_1_1[i]? = some w) : w ∈ lw_tbl := List.mem_append_right _ (show w ∈ tables_1 from List.mem_append_left _ (List.mem_of_getElem? h))
theorem lw_k2 {w : Cond} (i : Nat) (h : tables_1_2[i]? = some w) : w ∈ lw_tbl := List.mem_append_right _ (show w ∈ tables_1 from List.mem_append_right _ (List.mem_append_left _ (List.mem_of_getElem? h)))
theorem lw_k3 {w : Cond} (i : Nat) (h : tables_1_3[i]? = some w) : w ∈ lw_tbl := List.mem_append_right _ (show w ∈ tables_1 from List.mem_append_right _ (List.mem_append_right _ (List.mem_append_left _ (List.mem_of_getElem? h))))
theorem lw_k4 {w : Cond} (i : Nat) (h : tables_1_4[i]? = some w) : w ∈ lw_tbl := List.mem_append_right _ (show w ∈ tables_1 from List.mem_append_right _ (List.mem_append_right _ (List.mem_append_right _ (List.mem_append_left _ (List.mem_of_getElem? h)))))
theorem lw_k6 {w : Cond} (i : Nat) (h : tables_1_6[i]? = some w) : w ∈ lw_tbl := List.mem_append_right _ (show w ∈ tables_1 from List.mem_append_right _ (List.mem_append_right _ (List.mem_append_right _ (List.mem_append_right _ (List.mem_append_right _ (List.mem_append_left _ (List.mem_of_getElem? h)))))))
theorem lw_k7 {w : Cond} (i : Nat) (h : tables_1_7[i]? = some w) : w ∈ lw_tbl := List.mem_append_right _ (show w ∈ tables_1 from List.mem_append_right _ (List.mem_append_right _ (List.mem_append_right _ (List.mem_append_right _ (List.mem_append_right _ (List.mem_append_right _ (List.mem_append_left _ (List.mem_of_getElem? h))))))))
theorem lw_k8 {w : Cond} (i : Nat) (h : tables_1_8[i]? = some w) : w ∈ lw_tbl := List.mem_append_right _ (show w ∈ tables_1 from List.mem_append_right _ (List.mem_append_right _ (List.mem_append_right _ (List.mem_append_right _ (List.mem_append_right _ (List.mem_append_right _ (List.mem_append_right _ (List.mem_append_left _ (List.mem_of_getElem? h)))))))))
theorem st_text {b : Nat} {s : State} {k : Nat} {tx : String} (h1 : (Cond.stringRef RX11 k tx).before #[Value.ref b] s = true) (h2 : (Cond.exactly (.string RX11 k) "java/lang/String").before #[Value.ref b] s = true) : ∃ a, vk_R RX11 k tx a s := by
  obtain ⟨a, c, cell, kk, q1, -⟩ := Cond.exactly_spec h2
  exact ⟨a, vk_R.of h1 q1⟩
set_option maxRecDepth 100000 in
theorem st_ev {b : Nat} {s : State} (hts : ∀ w ∈ lw_tbl, w.before #[Value.ref b] s = true) (hgv : (Jvm.Cond.and given_1 narrow_1).before #[Value.ref b] s = true) : ev s := by
  have hf := flat_of_before _ hgv
  have hx369 : (Cond.exactly (.string RX11 369) "java/lang/String").before #[Value.ref b] s = true := hf _ (by decide +kernel)
  have hx377 : (Cond.exactly (.string RX11 377) "java/lang/String").before #[Value.ref b] s = true := hf _ (by decide +kernel)
  have hx274 : (Cond.exactly (.string RX11 274) "java/lang/String").before #[Value.ref b] s = true := hf _ (by decide +kernel)
  have hx95 : (Cond.exactly (.string RX11 95) "java/lang/String").before #[Value.ref b] s = true := hf _ (by decide +kernel)
  exact ⟨⟨va_Nw.of rfl (hts _ (lw_k8 4 rfl)), va_Nw.of rfl (hts _ (lw_k8 24 rfl)), va_Nw.of rfl (hts _ (lw_k8 67 rfl)), va_Nw.of rfl (hts _ (lw_k8 35 rfl)), va_Nw.of rfl (hts _ (lw_k8 30 rfl))⟩, ⟨va_AO.of (hts _ (lw_k1 45 rfl)), va_AO.of (hts _ (lw_k1 47 rfl))⟩, ⟨hts _ (lw_k8 69 rfl), hts _ (lw_k2 62 rfl)⟩, ⟨va_Nw.of rfl (hts _ (lw_k3 132 rfl)), va_Nw.of rfl (hts _ (lw_k2 219 rfl))⟩, st_text (hts _ (lw_k3 139 rfl)) hx369, st_text (hts _ (lw_k4 64 rfl)) hx377, st_text (hts _ (lw_k6 215 rfl)) hx274, st_text (hts _ (lw_k3 19 rfl)) hx95⟩
theorem st_dv {b : Nat} {s : State} (hts : ∀ w ∈ lw_tbl, w.before #[Value.ref b] s = true) : dv s := ⟨va_Nw.of rfl (hts _ (lw_k2 221 rfl)), va_Nw.of rfl (hts _ (lw_k2 223 rfl)), va_Nw.of rfl (hts _ (lw_k2 225 rfl))⟩
set_option maxRecDepth 100000 in
theorem st_zz {b : Nat} {s : State} (hts : ∀ w ∈ lw_tbl, w.before #[Value.ref b] s = true) (hgv : (Jvm.Cond.and given_1 narrow_1).before #[Value.ref b] s = true) : zz s.heap.size s s.heap := by
  have hf := flat_of_before _ hgv
  have h1 : (Cond.isRef (.static Bundle.tN "UNASSIGNED_STACK" Bundle.steD)).before #[Value.ref b] s = true := hf _ (by decide +kernel)
  have h2 : (Cond.isRef (.static Bundle.tN "SUPPRESSED_SENTINEL" Bundle.listD)).before #[Value.ref b] s = true := hf _ (by decide +kernel)
  exact ⟨vx_Zqof (hts _ (lw_k3 4 rfl)) (hts _ (lw_k1 16 rfl)) h1 (fun a h => Nat.not_le.mpr h), vx_Zqof (hts _ (lw_k3 6 rfl)) (hts _ (lw_k1 16 rfl)) h2 (fun a h => Nat.not_le.mpr h)⟩
set_option maxRecDepth 100000 in
theorem st_known {b : Nat} {s : State} (hts : ∀ w ∈ lw_tbl, w.before #[Value.ref b] s = true) : ∃ (dC : Nat → ClassId) (dI : Nat → Nat → Nat), va_K (dC, dI) clx [] s := by
  have hu : ∀ w ∈ wU, w.before #[Value.ref b] s = true := fun w h => hts w (wU_sub h)
  obtain ⟨c0, i0, h0⟩ := u_known (C := RX0) (T := TX0) (N := 3) (n := 3) hu iX0 (hts _ (lw_k1 54 rfl))
  obtain ⟨c1, i1, h1⟩ := u_known (C := RX1) (T := TX1) (N := 6) (n := 6) hu iX1 (hts _ (lw_k2 30 rfl))
  obtain ⟨c2, i2, h2⟩ := u_known (C := RX2) (T := TX2) (N := 4) (n := 4) hu iX2 (hts _ (lw_k3 74 rfl))
  obtain ⟨c3, i3, h3⟩ := u_known (C := RX3) (T := TX3) (N := 13) (n := 13) hu iX3 (hts _ (lw_k2 56 rfl))
  obtain ⟨c4, i4, h4⟩ := u_known (C := RX4) (T := TX4) (N := 17) (n := 17) hu iX4 (hts _ (lw_k1 110 rfl))
  obtain ⟨c5, i5, h5⟩ := u_known (C := RX5) (T := TX5) (N := 5) (n := 5) hu iX5 (hts _ (lw_k2 105 rfl))
  obtain ⟨c6, i6, h6⟩ := u_known (C := RX6) (T := TX6) (N := 11) (n := 11) hu iX6 (hts _ (lw_k1 224 rfl))
  obtain ⟨c7, i7, h7⟩ := u_known (C := RX7) (T := TX7) (N := 1) (n := 1) hu iX7 (hts _ (lw_k1 173 rfl))
  obtain ⟨c8, i8, h8⟩ := u_known (C := RX8) (T := TX8) (N := 4) (n := 4) hu iX8 (hts _ (lw_k1 204 rfl))
  obtain ⟨c9, i9, h9⟩ := u_known (C := RX9) (T := TX9) (N := 6) (n := 6) hu iX9 (hts _ (lw_k1 48 rfl))
  obtain ⟨c10, i10, h10⟩ := u_known (C := RX10) (T := TX10) (N := 4) (n := 4) hu iX10 (hts _ (lw_k1 184 rfl))
  obtain ⟨c11, i11, h11⟩ := u_known (C := RX11) (T := TX11) (N := 16) (n := 16) hu iX11 (hts _ (lw_k1 37 rfl))
  obtain ⟨c12, i12, h12⟩ := u_known (C := RX12) (T := TX12) (N := 2) (n := 2) hu iX12 (hts _ (lw_k8 29 rfl))
  obtain ⟨c13, i13, h13⟩ := u_known (C := RX13) (T := TX13) (N := 3) (n := 3) hu iX13 (hts _ (lw_k8 3 rfl))
  obtain ⟨c14, i14, h14⟩ := u_known (C := RX14) (T := TX14) (N := 5) (n := 5) hu iX14 (hts _ (lw_k8 23 rfl))
  obtain ⟨c15, i15, h15⟩ := u_known (C := RX15) (T := TX15) (N := 74) (n := 74) hu iX15 (hts _ (lw_k7 237 rfl))
  refine ⟨fun k => match k with | 0 => c0 | 1 => c1 | 2 => c2 | 3 => c3 | 4 => c4 | 5 => c5 | 6 => c6 | 7 => c7 | 8 => c8 | 9 => c9 | 10 => c10 | 11 => c11 | 12 => c12 | 13 => c13 | 14 => c14 | _ => c15, fun k => match k with | 0 => i0 | 1 => i1 | 2 => i2 | 3 => i3 | 4 => i4 | 5 => i5 | 6 => i6 | 7 => i7 | 8 => i8 | 9 => i9 | 10 => i10 | 11 => i11 | 12 => i12 | 13 => i13 | 14 => i14 | _ => i15, ⟨?_, fun k q h => by simp at h⟩⟩
  intro k q hq
  match k, hq with
  | 0, hq => cases hq; exact h0
  | 1, hq => cases hq; exact h1
  | 2, hq => cases hq; exact h2
  | 3, hq => cases hq; exact h3
  | 4, hq => cases hq; exact h4
  | 5, hq => cases hq; exact h5
  | 6, hq => cases hq; exact h6
  | 7, hq => cases hq; exact h7
  | 8, hq => cases hq; exact h8
  | 9, hq => cases hq; exact h9
  | 10, hq => cases hq; exact h10
  | 11, hq => cases hq; exact h11
  | 12, hq => cases hq; exact h12
  | 13, hq => cases hq; exact h13
  | 14, hq => cases hq; exact h14
  | 15, hq => cases hq; exact h15
  | k + 16, hq => simp [clx] at hq
