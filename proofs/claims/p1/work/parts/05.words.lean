def wU : List Cond := lw_tbl.filter goodWord
theorem wU_in {w : Cond} (h : w ∈ lw_tbl) (hg : goodWord w = true) : w ∈ wU := List.mem_filter.mpr ⟨h, hg⟩
theorem wU_sub {w : Cond} (h : w ∈ wU) : w ∈ lw_tbl := (List.mem_filter.mp h).1
theorem wU_good {w : Cond} (h : w ∈ wU) : goodWord w = true := (List.mem_filter.mp h).2
theorem wU_0 {w : Cond} (i : Nat) (h : (k2_sels lw_privs)[i]? = some w) (hg : goodWord w = true) : w ∈ wU := wU_in (List.mem_append_left _ (List.mem_of_getElem? h)) hg
theorem wU_1 {w : Cond} (i : Nat) (h : tables_1_1[i]? = some w) (hg : goodWord w = true) : w ∈ wU := wU_in (List.mem_append_right _ (show w ∈ tables_1 from List.mem_append_left _ (List.mem_of_getElem? h))) hg
theorem wU_2 {w : Cond} (i : Nat) (h : tables_1_2[i]? = some w) (hg : goodWord w = true) : w ∈ wU := wU_in (List.mem_append_right _ (show w ∈ tables_1 from List.mem_append_right _ (List.mem_append_left _ (List.mem_of_getElem? h)))) hg
theorem wU_3 {w : Cond} (i : Nat) (h : tables_1_3[i]? = some w) (hg : goodWord w = true) : w ∈ wU := wU_in (List.mem_append_right _ (show w ∈ tables_1 from List.mem_append_right _ (List.mem_append_right _ (List.mem_append_left _ (List.mem_of_getElem? h))))) hg
theorem wU_4 {w : Cond} (i : Nat) (h : tables_1_4[i]? = some w) (hg : goodWord w = true) : w ∈ wU := wU_in (List.mem_append_right _ (show w ∈ tables_1 from List.mem_append_right _ (List.mem_append_right _ (List.mem_append_right _ (List.mem_append_left _ (List.mem_of_getElem? h)))))) hg
theorem wU_5 {w : Cond} (i : Nat) (h : tables_1_5[i]? = some w) (hg : goodWord w = true) : w ∈ wU := wU_in (List.mem_append_right _ (show w ∈ tables_1 from List.mem_append_right _ (List.mem_append_right _ (List.mem_append_right _ (List.mem_append_right _ (List.mem_append_left _ (List.mem_of_getElem? h))))))) hg
theorem wU_6 {w : Cond} (i : Nat) (h : tables_1_6[i]? = some w) (hg : goodWord w = true) : w ∈ wU := wU_in (List.mem_append_right _ (show w ∈ tables_1 from List.mem_append_right _ (List.mem_append_right _ (List.mem_append_right _ (List.mem_append_right _ (List.mem_append_right _ (List.mem_append_left _ (List.mem_of_getElem? h)))))))) hg
theorem wU_7 {w : Cond} (i : Nat) (h : tables_1_7[i]? = some w) (hg : goodWord w = true) : w ∈ wU := wU_in (List.mem_append_right _ (show w ∈ tables_1 from List.mem_append_right _ (List.mem_append_right _ (List.mem_append_right _ (List.mem_append_right _ (List.mem_append_right _ (List.mem_append_right _ (List.mem_append_left _ (List.mem_of_getElem? h))))))))) hg
theorem wU_8 {w : Cond} (i : Nat) (h : tables_1_8[i]? = some w) (hg : goodWord w = true) : w ∈ wU := wU_in (List.mem_append_right _ (show w ∈ tables_1 from List.mem_append_right _ (List.mem_append_right _ (List.mem_append_right _ (List.mem_append_right _ (List.mem_append_right _ (List.mem_append_right _ (List.mem_append_right _ (List.mem_append_left _ (List.mem_of_getElem? h)))))))))) hg
theorem wU_9 {w : Cond} (i : Nat) (h : tables_1_9[i]? = some w) (hg : goodWord w = true) : w ∈ wU := wU_in (List.mem_append_right _ (show w ∈ tables_1 from List.mem_append_right _ (List.mem_append_right _ (List.mem_append_right _ (List.mem_append_right _ (List.mem_append_right _ (List.mem_append_right _ (List.mem_append_right _ (List.mem_append_right _ (List.mem_append_left _ (List.mem_of_getElem? h))))))))))) hg
theorem wU_10 {w : Cond} (i : Nat) (h : tables_1_10[i]? = some w) (hg : goodWord w = true) : w ∈ wU := wU_in (List.mem_append_right _ (show w ∈ tables_1 from List.mem_append_right _ (List.mem_append_right _ (List.mem_append_right _ (List.mem_append_right _ (List.mem_append_right _ (List.mem_append_right _ (List.mem_append_right _ (List.mem_append_right _ (List.mem_append_right _ (List.mem_append_left _ (List.mem_of_getElem? h)))))))))))) hg
theorem wU_11 {w : Cond} (i : Nat) (h : tables_1_11[i]? = some w) (hg : goodWord w = true) : w ∈ wU := wU_in (List.mem_append_right _ (show w ∈ tables_1 from List.mem_append_right _ (List.mem_append_right _ (List.mem_append_right _ (List.mem_append_right _ (List.mem_append_right _ (List.mem_append_right _ (List.mem_append_right _ (List.mem_append_right _ (List.mem_append_right _ (List.mem_append_right _ (List.mem_of_getElem? h)))))))))))) hg
theorem gU {pre : List Cond} (h : ∀ w ∈ pre, w ∈ wU) : GoodIn wU (pre ++ wU) := fun w hw => have hm : w ∈ wU := (List.mem_append.mp hw).elim (h w) id
  ⟨hm, good_of_word (wU_good hm)⟩
theorem gC {cd : Cond} (h : cd ∈ wU) : GoodIn wU (cd :: wU) := gU (pre := [cd]) (fun w hw => by rw [List.mem_singleton.mp hw]; exact h)
theorem gV {own C : String} {idx : Nat} {y : MethodName} {cd : Cond} (h1 : Cond.methodLink own idx y ∈ wU) (h2 : Cond.instanceMethod y ∈ wU) (h3 : Cond.selects C y y ∈ wU) (h4 : Cond.initialized C ∈ wU) (h5 : cd ∈ wU) : GoodIn wU (wsV own idx C y (cd :: wU)) :=
  gU (pre := [.methodLink own idx y, .instanceMethod y, .selects C y y, .initialized C, cd]) (List.forall_mem_cons.mpr ⟨h1, List.forall_mem_cons.mpr ⟨h2, List.forall_mem_cons.mpr ⟨h3, List.forall_mem_cons.mpr ⟨h4, List.forall_mem_cons.mpr ⟨h5, fun _ h => absurd h List.not_mem_nil⟩⟩⟩⟩⟩)
theorem gS {own : String} {idx : Nat} {y : MethodName} {cd : Cond} (h1 : Cond.methodLink own idx y ∈ wU) (h2 : Cond.static y ∈ wU) (h4 : Cond.initialized y.cls ∈ wU) (h5 : cd ∈ wU) : GoodIn wU (va_wsS own idx y (cd :: wU)) :=
  gU (pre := [.methodLink own idx y, .static y, .initialized y.cls, cd]) (List.forall_mem_cons.mpr ⟨h1, List.forall_mem_cons.mpr ⟨h2, List.forall_mem_cons.mpr ⟨h4, List.forall_mem_cons.mpr ⟨h5, fun _ h => absurd h List.not_mem_nil⟩⟩⟩⟩)
theorem iX0 : ∀ w ∈ wsX00, w ∈ wU := by
  intro w hw
  obtain ⟨k, hk, rfl⟩ := List.mem_map.mp hw
  have hk := List.mem_range.mp hk
  exact wU_in ((by decide +kernel : ∀ k, k < 3 → u_lay RX0 TX0 k ∈ lw_tbl) k hk) ((by decide +kernel : ∀ k, k < 3 → goodWord (u_lay RX0 TX0 k) = true) k hk)
theorem iX1 : ∀ w ∈ wsX10, w ∈ wU := by
  intro w hw
  obtain ⟨k, hk, rfl⟩ := List.mem_map.mp hw
  have hk := List.mem_range.mp hk
  exact wU_in ((by decide +kernel : ∀ k, k < 6 → u_lay RX1 TX1 k ∈ lw_tbl) k hk) ((by decide +kernel : ∀ k, k < 6 → goodWord (u_lay RX1 TX1 k) = true) k hk)
theorem iX2 : ∀ w ∈ wsX20, w ∈ wU := by
  intro w hw
  obtain ⟨k, hk, rfl⟩ := List.mem_map.mp hw
  have hk := List.mem_range.mp hk
  exact wU_in ((by decide +kernel : ∀ k, k < 4 → u_lay RX2 TX2 k ∈ lw_tbl) k hk) ((by decide +kernel : ∀ k, k < 4 → goodWord (u_lay RX2 TX2 k) = true) k hk)
theorem iX3 : ∀ w ∈ wsX30, w ∈ wU := by
  intro w hw
  obtain ⟨k, hk, rfl⟩ := List.mem_map.mp hw
  have hk := List.mem_range.mp hk
  exact wU_in ((by decide +kernel : ∀ k, k < 13 → u_lay RX3 TX3 k ∈ lw_tbl) k hk) ((by decide +kernel : ∀ k, k < 13 → goodWord (u_lay RX3 TX3 k) = true) k hk)
theorem iX4 : ∀ w ∈ wsX40, w ∈ wU := by
  intro w hw
  obtain ⟨k, hk, rfl⟩ := List.mem_map.mp hw
  have hk := List.mem_range.mp hk
  exact wU_in ((by decide +kernel : ∀ k, k < 17 → u_lay RX4 TX4 k ∈ lw_tbl) k hk) ((by decide +kernel : ∀ k, k < 17 → goodWord (u_lay RX4 TX4 k) = true) k hk)
theorem iX5 : ∀ w ∈ wsX50, w ∈ wU := by
  intro w hw
  obtain ⟨k, hk, rfl⟩ := List.mem_map.mp hw
  have hk := List.mem_range.mp hk
  exact wU_in ((by decide +kernel : ∀ k, k < 5 → u_lay RX5 TX5 k ∈ lw_tbl) k hk) ((by decide +kernel : ∀ k, k < 5 → goodWord (u_lay RX5 TX5 k) = true) k hk)
theorem iX6 : ∀ w ∈ wsX60, w ∈ wU := by
  intro w hw
  obtain ⟨k, hk, rfl⟩ := List.mem_map.mp hw
  have hk := List.mem_range.mp hk
  exact wU_in ((by decide +kernel : ∀ k, k < 11 → u_lay RX6 TX6 k ∈ lw_tbl) k hk) ((by decide +kernel : ∀ k, k < 11 → goodWord (u_lay RX6 TX6 k) = true) k hk)
theorem iX7 : ∀ w ∈ wsX70, w ∈ wU := by
  intro w hw
  obtain ⟨k, hk, rfl⟩ := List.mem_map.mp hw
  have hk := List.mem_range.mp hk
  exact wU_in ((by decide +kernel : ∀ k, k < 1 → u_lay RX7 TX7 k ∈ lw_tbl) k hk) ((by decide +kernel : ∀ k, k < 1 → goodWord (u_lay RX7 TX7 k) = true) k hk)
theorem iX8 : ∀ w ∈ wsX80, w ∈ wU := by
  intro w hw
  obtain ⟨k, hk, rfl⟩ := List.mem_map.mp hw
  have hk := List.mem_range.mp hk
  exact wU_in ((by decide +kernel : ∀ k, k < 4 → u_lay RX8 TX8 k ∈ lw_tbl) k hk) ((by decide +kernel : ∀ k, k < 4 → goodWord (u_lay RX8 TX8 k) = true) k hk)
theorem iX9 : ∀ w ∈ wsX90, w ∈ wU := by
  intro w hw
  obtain ⟨k, hk, rfl⟩ := List.mem_map.mp hw
  have hk := List.mem_range.mp hk
  exact wU_in ((by decide +kernel : ∀ k, k < 6 → u_lay RX9 TX9 k ∈ lw_tbl) k hk) ((by decide +kernel : ∀ k, k < 6 → goodWord (u_lay RX9 TX9 k) = true) k hk)
theorem iX10 : ∀ w ∈ wsX100, w ∈ wU := by
  intro w hw
  obtain ⟨k, hk, rfl⟩ := List.mem_map.mp hw
  have hk := List.mem_range.mp hk
  exact wU_in ((by decide +kernel : ∀ k, k < 4 → u_lay RX10 TX10 k ∈ lw_tbl) k hk) ((by decide +kernel : ∀ k, k < 4 → goodWord (u_lay RX10 TX10 k) = true) k hk)
theorem iX11 : ∀ w ∈ wsX110, w ∈ wU := by
  intro w hw
  obtain ⟨k, hk, rfl⟩ := List.mem_map.mp hw
  have hk := List.mem_range.mp hk
  exact wU_in ((by decide +kernel : ∀ k, k < 16 → u_lay RX11 TX11 k ∈ lw_tbl) k hk) ((by decide +kernel : ∀ k, k < 16 → goodWord (u_lay RX11 TX11 k) = true) k hk)
theorem iX12 : ∀ w ∈ wsX120, w ∈ wU := by
  intro w hw
  obtain ⟨k, hk, rfl⟩ := List.mem_map.mp hw
  have hk := List.mem_range.mp hk
  exact wU_in ((by decide +kernel : ∀ k, k < 2 → u_lay RX12 TX12 k ∈ lw_tbl) k hk) ((by decide +kernel : ∀ k, k < 2 → goodWord (u_lay RX12 TX12 k) = true) k hk)
theorem iX13 : ∀ w ∈ wsX130, w ∈ wU := by
  intro w hw
  obtain ⟨k, hk, rfl⟩ := List.mem_map.mp hw
  have hk := List.mem_range.mp hk
  exact wU_in ((by decide +kernel : ∀ k, k < 3 → u_lay RX13 TX13 k ∈ lw_tbl) k hk) ((by decide +kernel : ∀ k, k < 3 → goodWord (u_lay RX13 TX13 k) = true) k hk)
theorem iX14 : ∀ w ∈ wsX140, w ∈ wU := by
  intro w hw
  obtain ⟨k, hk, rfl⟩ := List.mem_map.mp hw
  have hk := List.mem_range.mp hk
  exact wU_in ((by decide +kernel : ∀ k, k < 5 → u_lay RX14 TX14 k ∈ lw_tbl) k hk) ((by decide +kernel : ∀ k, k < 5 → goodWord (u_lay RX14 TX14 k) = true) k hk)
theorem iX15 : ∀ w ∈ wsX150, w ∈ wU := by
  intro w hw
  obtain ⟨k, hk, rfl⟩ := List.mem_map.mp hw
  have hk := List.mem_range.mp hk
  exact wU_in ((by decide +kernel : ∀ k, k < 74 → u_lay RX15 TX15 k ∈ lw_tbl) k hk) ((by decide +kernel : ∀ k, k < 74 → goodWord (u_lay RX15 TX15 k) = true) k hk)

