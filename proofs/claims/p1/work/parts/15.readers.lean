def farL (v : Int64) : Int32 := if v < -10000 ∨ 10000 < v then 1 else 0
def wv (a b : Int32) : Int64 := 4 * a.toInt64 * a.toInt64 * a.toInt64 + 27 * b.toInt64 * b.toInt64
def rs (a b : Int32) : Int32 := if wv a b = 0 then -1 else 0
def bad (a b : Int32) : Prop := a < -10000 ∨ 10000 < a ∨ b < -10000 ∨ 10000 < b
theorem fw_lt (a b : Int32) : a.toInt64 < b.toInt64 ↔ a < b := by rw [Int64.lt_iff_toInt_lt, Int32.lt_iff_toInt_lt, Int32.toInt_toInt64, Int32.toInt_toInt64]
theorem far_in {x : Int32} (h1 : ¬ x < -10000) (h2 : ¬ 10000 < x) : farL x.toInt64 = 0 := by
  unfold farL
  rw [if_neg]
  rintro (h | h)
  · exact h1 ((fw_lt x (-10000)).mp h)
  · exact h2 ((fw_lt 10000 x).mp h)
theorem far_out {x : Int32} (h : x < -10000 ∨ 10000 < x) : farL x.toInt64 = 1 := by
  unfold farL
  rw [if_pos]
  rcases h with h | h
  · exact Or.inl ((fw_lt x (-10000)).mpr h)
  · exact Or.inr ((fw_lt 10000 x).mpr h)
theorem dX11_coefficient_0 : decode cX11_coefficient 0 = .ok (.aload_n 0, 1) := by decide +kernel
theorem dX11_coefficient_1 : decode cX11_coefficient 1 = .ok (.getfield 82, 3) := by decide +kernel
theorem dX11_coefficient_4 : decode cX11_coefficient 4 = .ok (.iload_n 1, 1) := by decide +kernel
theorem dX11_coefficient_5 : decode cX11_coefficient 5 = .ok (.invokevirtual 340, 3) := by decide +kernel
theorem dX11_coefficient_8 : decode cX11_coefficient 8 = .ok (.ireturn, 1) := by decide +kernel
theorem dX11_counted_0 : decode cX11_counted 0 = .ok (.iload_n 1, 1) := by decide +kernel
theorem dX11_counted_1 : decode cX11_counted 1 = .ok (.tableswitch 42 0 2 #[27, 32, 37], 27) := by decide +kernel
theorem dX11_counted_28 : decode cX11_counted 28 = .ok (.aload_n 0, 1) := by decide +kernel
theorem dX11_counted_29 : decode cX11_counted 29 = .ok (.getfield 363, 3) := by decide +kernel
theorem dX11_counted_32 : decode cX11_counted 32 = .ok (.ireturn, 1) := by decide +kernel
theorem dX11_counted_33 : decode cX11_counted 33 = .ok (.aload_n 0, 1) := by decide +kernel
theorem dX11_counted_34 : decode cX11_counted 34 = .ok (.getfield 366, 3) := by decide +kernel
theorem dX11_counted_37 : decode cX11_counted 37 = .ok (.ireturn, 1) := by decide +kernel
theorem dX11_counted_38 : decode cX11_counted 38 = .ok (.aload_n 0, 1) := by decide +kernel
theorem dX11_counted_39 : decode cX11_counted 39 = .ok (.getfield 248, 3) := by decide +kernel
theorem dX11_counted_42 : decode cX11_counted 42 = .ok (.ireturn, 1) := by decide +kernel
theorem dX11_counted_43 : decode cX11_counted 43 = .ok (.iconst (-1), 1) := by decide +kernel
theorem dX11_counted_44 : decode cX11_counted 44 = .ok (.ireturn, 1) := by decide +kernel
theorem dX11_octet_0 : decode cX11_octet 0 = .ok (.iload_n 1, 1) := by decide +kernel
theorem dX11_octet_1 : decode cX11_octet 1 = .ok (.ifCond .lt 20, 3) := by decide +kernel
theorem dX11_octet_4 : decode cX11_octet 4 = .ok (.iload_n 1, 1) := by decide +kernel
theorem dX11_octet_5 : decode cX11_octet 5 = .ok (.aload_n 0, 1) := by decide +kernel
theorem dX11_octet_6 : decode cX11_octet 6 = .ok (.getfield 248, 3) := by decide +kernel
theorem dX11_octet_9 : decode cX11_octet 9 = .ok (.if_icmp .ge 12, 3) := by decide +kernel
theorem dX11_octet_21 : decode cX11_octet 21 = .ok (.iconst (-1), 1) := by decide +kernel
theorem dX11_octet_22 : decode cX11_octet 22 = .ok (.goto 9, 3) := by decide +kernel
theorem dX11_octet_31 : decode cX11_octet 31 = .ok (.ireturn, 1) := by decide +kernel
theorem dX11_root_0 : decode cX11_root 0 = .ok (.aload_n 0, 1) := by decide +kernel
theorem dX11_root_1 : decode cX11_root 1 = .ok (.getfield 82, 3) := by decide +kernel
theorem dX11_root_4 : decode cX11_root 4 = .ok (.iload_n 1, 1) := by decide +kernel
theorem dX11_root_5 : decode cX11_root 5 = .ok (.invokevirtual 343, 3) := by decide +kernel
theorem dX11_root_8 : decode cX11_root 8 = .ok (.ireturn, 1) := by decide +kernel
theorem dX15_cubicOf_0 : decode cX15_cubicOf 0 = .ok (.iconst 0, 1) := by decide +kernel
theorem dX15_cubicOf_1 : decode cX15_cubicOf 1 = .ok (.istore 6, 2) := by decide +kernel
theorem dX15_cubicOf_3 : decode cX15_cubicOf 3 = .ok (.iload 6, 2) := by decide +kernel
theorem dX15_cubicOf_5 : decode cX15_cubicOf 5 = .ok (.aload_n 0, 1) := by decide +kernel
theorem dX15_cubicOf_6 : decode cX15_cubicOf 6 = .ok (.getfield 284, 3) := by decide +kernel
theorem dX15_cubicOf_9 : decode cX15_cubicOf 9 = .ok (.if_icmp .ge 48, 3) := by decide +kernel
theorem dX15_cubicOf_57 : decode cX15_cubicOf 57 = .ok (.aload_n 0, 1) := by decide +kernel
theorem dX15_cubicOf_58 : decode cX15_cubicOf 58 = .ok (.getfield 284, 3) := by decide +kernel
theorem dX15_cubicOf_61 : decode cX15_cubicOf 61 = .ok (.bipush 40, 2) := by decide +kernel
theorem dX15_cubicOf_63 : decode cX15_cubicOf 63 = .ok (.if_icmp .ne 5, 3) := by decide +kernel
theorem dX15_cubicOf_68 : decode cX15_cubicOf 68 = .ok (.aload_n 0, 1) := by decide +kernel
theorem dX15_cubicOf_69 : decode cX15_cubicOf 69 = .ok (.getfield 34, 3) := by decide +kernel
theorem dX15_cubicOf_72 : decode cX15_cubicOf 72 = .ok (.aload_n 0, 1) := by decide +kernel
theorem dX15_cubicOf_73 : decode cX15_cubicOf 73 = .ok (.getfield 284, 3) := by decide +kernel
theorem dX15_cubicOf_76 : decode cX15_cubicOf 76 = .ok (.lload_n 1, 1) := by decide +kernel
theorem dX15_cubicOf_77 : decode cX15_cubicOf 77 = .ok (.lastore, 1) := by decide +kernel
theorem dX15_cubicOf_78 : decode cX15_cubicOf 78 = .ok (.aload_n 0, 1) := by decide +kernel
theorem dX15_cubicOf_79 : decode cX15_cubicOf 79 = .ok (.getfield 38, 3) := by decide +kernel
theorem dX15_cubicOf_82 : decode cX15_cubicOf 82 = .ok (.aload_n 0, 1) := by decide +kernel
theorem dX15_cubicOf_83 : decode cX15_cubicOf 83 = .ok (.getfield 284, 3) := by decide +kernel
theorem dX15_cubicOf_86 : decode cX15_cubicOf 86 = .ok (.lload_n 3, 1) := by decide +kernel
theorem dX15_cubicOf_87 : decode cX15_cubicOf 87 = .ok (.lastore, 1) := by decide +kernel
theorem dX15_cubicOf_88 : decode cX15_cubicOf 88 = .ok (.aload_n 0, 1) := by decide +kernel
theorem dX15_cubicOf_89 : decode cX15_cubicOf 89 = .ok (.getfield 41, 3) := by decide +kernel
theorem dX15_cubicOf_92 : decode cX15_cubicOf 92 = .ok (.aload_n 0, 1) := by decide +kernel
theorem dX15_cubicOf_93 : decode cX15_cubicOf 93 = .ok (.getfield 284, 3) := by decide +kernel
theorem dX15_cubicOf_96 : decode cX15_cubicOf 96 = .ok (.iload 5, 2) := by decide +kernel
theorem dX15_cubicOf_98 : decode cX15_cubicOf 98 = .ok (.iastore, 1) := by decide +kernel
theorem dX15_cubicOf_99 : decode cX15_cubicOf 99 = .ok (.aload_n 0, 1) := by decide +kernel
theorem dX15_cubicOf_100 : decode cX15_cubicOf 100 = .ok (.getfield 45, 3) := by decide +kernel
theorem dX15_cubicOf_103 : decode cX15_cubicOf 103 = .ok (.aload_n 0, 1) := by decide +kernel
theorem dX15_cubicOf_104 : decode cX15_cubicOf 104 = .ok (.getfield 284, 3) := by decide +kernel
theorem dX15_cubicOf_107 : decode cX15_cubicOf 107 = .ok (.iconst (-1), 1) := by decide +kernel
theorem dX15_cubicOf_108 : decode cX15_cubicOf 108 = .ok (.iastore, 1) := by decide +kernel
theorem dX15_cubicOf_109 : decode cX15_cubicOf 109 = .ok (.aload_n 0, 1) := by decide +kernel
theorem dX15_cubicOf_110 : decode cX15_cubicOf 110 = .ok (.getfield 116, 3) := by decide +kernel
theorem dX15_cubicOf_113 : decode cX15_cubicOf 113 = .ok (.aload_n 0, 1) := by decide +kernel
theorem dX15_cubicOf_114 : decode cX15_cubicOf 114 = .ok (.getfield 284, 3) := by decide +kernel
theorem dX15_cubicOf_117 : decode cX15_cubicOf 117 = .ok (.iconst 0, 1) := by decide +kernel
theorem dX15_cubicOf_118 : decode cX15_cubicOf 118 = .ok (.bastore, 1) := by decide +kernel
theorem dX15_cubicOf_119 : decode cX15_cubicOf 119 = .ok (.aload_n 0, 1) := by decide +kernel
theorem dX15_cubicOf_120 : decode cX15_cubicOf 120 = .ok (.getfield 149, 3) := by decide +kernel
theorem dX15_cubicOf_123 : decode cX15_cubicOf 123 = .ok (.aload_n 0, 1) := by decide +kernel
theorem dX15_cubicOf_124 : decode cX15_cubicOf 124 = .ok (.getfield 284, 3) := by decide +kernel
theorem dX15_cubicOf_127 : decode cX15_cubicOf 127 = .ok (.iconst 0, 1) := by decide +kernel
theorem dX15_cubicOf_128 : decode cX15_cubicOf 128 = .ok (.bastore, 1) := by decide +kernel
theorem dX15_cubicOf_129 : decode cX15_cubicOf 129 = .ok (.aload_n 0, 1) := by decide +kernel
theorem dX15_cubicOf_130 : decode cX15_cubicOf 130 = .ok (.dup, 1) := by decide +kernel
theorem dX15_cubicOf_131 : decode cX15_cubicOf 131 = .ok (.getfield 284, 3) := by decide +kernel
theorem dX15_cubicOf_134 : decode cX15_cubicOf 134 = .ok (.iconst 1, 1) := by decide +kernel
theorem dX15_cubicOf_135 : decode cX15_cubicOf 135 = .ok (.iadd, 1) := by decide +kernel
theorem dX15_cubicOf_136 : decode cX15_cubicOf 136 = .ok (.putfield 284, 3) := by decide +kernel
theorem dX15_cubicOf_139 : decode cX15_cubicOf 139 = .ok (.aload_n 0, 1) := by decide +kernel
theorem dX15_cubicOf_140 : decode cX15_cubicOf 140 = .ok (.getfield 284, 3) := by decide +kernel
theorem dX15_cubicOf_143 : decode cX15_cubicOf 143 = .ok (.iconst 1, 1) := by decide +kernel
theorem dX15_cubicOf_144 : decode cX15_cubicOf 144 = .ok (.isub, 1) := by decide +kernel
theorem dX15_cubicOf_145 : decode cX15_cubicOf 145 = .ok (.ireturn, 1) := by decide +kernel
theorem dX15_gives_0 : decode cX15_gives 0 = .ok (.aload_n 0, 1) := by decide +kernel
theorem dX15_gives_1 : decode cX15_gives 1 = .ok (.iload_n 1, 1) := by decide +kernel
theorem dX15_gives_2 : decode cX15_gives 2 = .ok (.iconst (-1), 1) := by decide +kernel
theorem dX15_gives_3 : decode cX15_gives 3 = .ok (.if_icmp .ne 7, 3) := by decide +kernel
theorem dX15_gives_10 : decode cX15_gives 10 = .ok (.iconst 0, 1) := by decide +kernel
theorem dX15_gives_11 : decode cX15_gives 11 = .ok (.putfield 209, 3) := by decide +kernel
theorem dX15_gives_14 : decode cX15_gives 14 = .ok (.iload_n 1, 1) := by decide +kernel
theorem dX15_gives_15 : decode cX15_gives 15 = .ok (.iconst (-1), 1) := by decide +kernel
theorem dX15_gives_16 : decode cX15_gives 16 = .ok (.if_icmp .ne 7, 3) := by decide +kernel
theorem dX15_gives_23 : decode cX15_gives 23 = .ok (.iload_n 1, 1) := by decide +kernel
theorem dX15_gives_24 : decode cX15_gives 24 = .ok (.ireturn, 1) := by decide +kernel
theorem dX15_isFar_0 : decode cX15_isFar 0 = .ok (.lload_n 0, 1) := by decide +kernel
theorem dX15_isFar_1 : decode cX15_isFar 1 = .ok (.ldc2_w 287, 3) := by decide +kernel
theorem dX15_isFar_4 : decode cX15_isFar 4 = .ok (.lcmp, 1) := by decide +kernel
theorem dX15_isFar_5 : decode cX15_isFar 5 = .ok (.ifCond .lt 11, 3) := by decide +kernel
theorem dX15_isFar_8 : decode cX15_isFar 8 = .ok (.lload_n 0, 1) := by decide +kernel
theorem dX15_isFar_9 : decode cX15_isFar 9 = .ok (.ldc2_w 289, 3) := by decide +kernel
theorem dX15_isFar_12 : decode cX15_isFar 12 = .ok (.lcmp, 1) := by decide +kernel
theorem dX15_isFar_13 : decode cX15_isFar 13 = .ok (.ifCond .le 7, 3) := by decide +kernel
theorem dX15_isFar_16 : decode cX15_isFar 16 = .ok (.iconst 1, 1) := by decide +kernel
theorem dX15_isFar_17 : decode cX15_isFar 17 = .ok (.goto 4, 3) := by decide +kernel
theorem dX15_isFar_20 : decode cX15_isFar 20 = .ok (.iconst 0, 1) := by decide +kernel
theorem dX15_isFar_21 : decode cX15_isFar 21 = .ok (.ireturn, 1) := by decide +kernel
theorem dX15_thrown_0 : decode cX15_thrown 0 = .ok (.aload_n 0, 1) := by decide +kernel
theorem dX15_thrown_1 : decode cX15_thrown 1 = .ok (.getfield 209, 3) := by decide +kernel
theorem dX15_thrown_4 : decode cX15_thrown 4 = .ok (.ireturn, 1) := by decide +kernel
theorem dX15_worth_0 : decode cX15_worth 0 = .ok (.iload 4, 2) := by decide +kernel
theorem dX15_worth_2 : decode cX15_worth 2 = .ok (.ifCond .ne 21, 3) := by decide +kernel
theorem dX15_worth_5 : decode cX15_worth 5 = .ok (.ldc2_w 280, 3) := by decide +kernel
theorem dX15_worth_8 : decode cX15_worth 8 = .ok (.lload_n 0, 1) := by decide +kernel
theorem dX15_worth_9 : decode cX15_worth 9 = .ok (.lmul, 1) := by decide +kernel
theorem dX15_worth_10 : decode cX15_worth 10 = .ok (.lload_n 0, 1) := by decide +kernel
theorem dX15_worth_11 : decode cX15_worth 11 = .ok (.lmul, 1) := by decide +kernel
theorem dX15_worth_12 : decode cX15_worth 12 = .ok (.lload_n 0, 1) := by decide +kernel
theorem dX15_worth_13 : decode cX15_worth 13 = .ok (.lmul, 1) := by decide +kernel
theorem dX15_worth_14 : decode cX15_worth 14 = .ok (.ldc2_w 282, 3) := by decide +kernel
theorem dX15_worth_17 : decode cX15_worth 17 = .ok (.lload_n 2, 1) := by decide +kernel
theorem dX15_worth_18 : decode cX15_worth 18 = .ok (.lmul, 1) := by decide +kernel
theorem dX15_worth_19 : decode cX15_worth 19 = .ok (.lload_n 2, 1) := by decide +kernel
theorem dX15_worth_20 : decode cX15_worth 20 = .ok (.lmul, 1) := by decide +kernel
theorem dX15_worth_21 : decode cX15_worth 21 = .ok (.ladd, 1) := by decide +kernel
theorem dX15_worth_22 : decode cX15_worth 22 = .ok (.lreturn, 1) := by decide +kernel
theorem dX2_worthOf_0 : decode cX2_worthOf 0 = .ok (.lload 4, 2) := by decide +kernel
theorem dX2_worthOf_2 : decode cX2_worthOf 2 = .ok (.lconst 0, 1) := by decide +kernel
theorem dX2_worthOf_3 : decode cX2_worthOf 3 = .ok (.lcmp, 1) := by decide +kernel
theorem dX2_worthOf_4 : decode cX2_worthOf 4 = .ok (.ifCond .ne 21, 3) := by decide +kernel
theorem dX2_worthOf_7 : decode cX2_worthOf 7 = .ok (.ldc2_w 19, 3) := by decide +kernel
theorem dX2_worthOf_10 : decode cX2_worthOf 10 = .ok (.lload_n 0, 1) := by decide +kernel
theorem dX2_worthOf_11 : decode cX2_worthOf 11 = .ok (.lmul, 1) := by decide +kernel
theorem dX2_worthOf_12 : decode cX2_worthOf 12 = .ok (.lload_n 0, 1) := by decide +kernel
theorem dX2_worthOf_13 : decode cX2_worthOf 13 = .ok (.lmul, 1) := by decide +kernel
theorem dX2_worthOf_14 : decode cX2_worthOf 14 = .ok (.lload_n 0, 1) := by decide +kernel
theorem dX2_worthOf_15 : decode cX2_worthOf 15 = .ok (.lmul, 1) := by decide +kernel
theorem dX2_worthOf_16 : decode cX2_worthOf 16 = .ok (.ldc2_w 21, 3) := by decide +kernel
theorem dX2_worthOf_19 : decode cX2_worthOf 19 = .ok (.lload_n 2, 1) := by decide +kernel
theorem dX2_worthOf_20 : decode cX2_worthOf 20 = .ok (.lmul, 1) := by decide +kernel
theorem dX2_worthOf_21 : decode cX2_worthOf 21 = .ok (.lload_n 2, 1) := by decide +kernel
theorem dX2_worthOf_22 : decode cX2_worthOf 22 = .ok (.lmul, 1) := by decide +kernel
theorem dX2_worthOf_23 : decode cX2_worthOf 23 = .ok (.ladd, 1) := by decide +kernel
theorem dX2_worthOf_24 : decode cX2_worthOf 24 = .ok (.lreturn, 1) := by decide +kernel
theorem dX3_coefficientAt_0 : decode cX3_coefficientAt 0 = .ok (.iload_n 1, 1) := by decide +kernel
theorem dX3_coefficientAt_1 : decode cX3_coefficientAt 1 = .ok (.ifCond .lt 16, 3) := by decide +kernel
theorem dX3_coefficientAt_4 : decode cX3_coefficientAt 4 = .ok (.iload_n 1, 1) := by decide +kernel
theorem dX3_coefficientAt_5 : decode cX3_coefficientAt 5 = .ok (.bipush 64, 2) := by decide +kernel
theorem dX3_coefficientAt_7 : decode cX3_coefficientAt 7 = .ok (.if_icmp .ge 10, 3) := by decide +kernel
theorem dX3_coefficientAt_10 : decode cX3_coefficientAt 10 = .ok (.aload_n 0, 1) := by decide +kernel
theorem dX3_coefficientAt_11 : decode cX3_coefficientAt 11 = .ok (.getfield 67, 3) := by decide +kernel
theorem dX3_coefficientAt_14 : decode cX3_coefficientAt 14 = .ok (.ifCond .ne 7, 3) := by decide +kernel
theorem dX3_coefficientAt_17 : decode cX3_coefficientAt 17 = .ok (.iconst 0, 1) := by decide +kernel
theorem dX3_coefficientAt_18 : decode cX3_coefficientAt 18 = .ok (.goto 15, 3) := by decide +kernel
theorem dX3_coefficientAt_33 : decode cX3_coefficientAt 33 = .ok (.ireturn, 1) := by decide +kernel
theorem dX3_rootAt_0 : decode cX3_rootAt 0 = .ok (.aload_n 0, 1) := by decide +kernel
theorem dX3_rootAt_1 : decode cX3_rootAt 1 = .ok (.getfield 33, 3) := by decide +kernel
theorem dX3_rootAt_4 : decode cX3_rootAt 4 = .ok (.iconst (-1), 1) := by decide +kernel
theorem dX3_rootAt_5 : decode cX3_rootAt 5 = .ok (.if_icmp .ne 5, 3) := by decide +kernel
theorem dX3_rootAt_8 : decode cX3_rootAt 8 = .ok (.iconst (-1), 1) := by decide +kernel
theorem dX3_rootAt_9 : decode cX3_rootAt 9 = .ok (.ireturn, 1) := by decide +kernel
def wk_X15_thrown : List Cond := .code yX15_thrown cX15_thrown 1 (some .int) :: wU
set_option maxHeartbeats 4000000 in
set_option maxRecDepth 100000 in
theorem r_X15_thrown (l : Launch) (dC : Nat → ClassId) (dI : Nat → Nat → Nat) (h0 sz : Nat) (fs : List Value) (v : Int32) (h : fs[0]? = some (.int v)) : Met l yX15_thrown wk_X15_thrown ({ frames := 7, cells := 0, slots := 0, locals := 130 } : Room) (mP dC dI [(h0, .inr (15, fs))] [] sz [.ref h0]) (va_Qi (S := Unit) (fun r _ => r = v) (fun _ _ => True) (nw sz)) 0 0 (nw sz) := by
  refine Met.ofW (cc := cX15_thrown) (maxL := 1) (ret := (some .int)) (by decide) rfl ?_
  intro p e s m args below meth c s₁ B hml hv
  obtain ⟨rfl, hsz, hP, hK, hD0⟩ := hv
  have hx := B.exec
  have hb := B.bytes
  have hr := B.returns
  have hts := atoms_spec (ws := wk_X15_thrown) B.pre
  have hu : ∀ w ∈ wU, w.before ([.ref h0] : List Value).toArray s = true := fun w h => hts w (List.mem_cons_of_mem _ h)
  have hown : s.vm.findClass RX15 = some m.cls := findClass_of_methodNamed B.named
  have hlocks := B.notSynchronized
  subst hsz
  have hA : ∀ q : Nat, s.heap.size ≤ q → nw s.heap.size q := fun _ h => h
  have hS : va_S (nw s.heap.size) s.heap s.heap [] := va_S.rf
  have hl := lv_entry ([.ref h0]) (n := 1) (Nat.le_of_ble_eq_true rfl)
  rw [lg_entry_eq]
  generalize (lg_sl ([.ref h0]) ++ List.replicate (1 - (lg_sl ([.ref h0])).length) Slot.unset).toArray = ls at hl ⊢
  have hl : lv_has ls 1 [(0, .ref h0)] := hl
  refine lv_aload_n hx hb dX15_thrown_0 rfl (lv_at hl 0 rfl) ?_
  refine va_get (D := (dC, dI)) (ci := 15) (v := .int v) (C := RX15) (T := TX15) (N := 74) hx hb hu iX15 hown hK hP 0 rfl rfl 0 (by decide) (hu _ u230) (fun _ h9 => h9) h dX15_thrown_1 ?_
  exact W.iret (v := v) hx hb hr (fun t ht hW => ⟨⟨v, (), rfl, rfl, trivial⟩, hS.F ht⟩) hS.2.2 dX15_thrown_4
def wk_X3_coefficientAt : List Cond := .code yX3_coefficientAt cX3_coefficientAt 2 (some .int) :: wU
set_option maxHeartbeats 4000000 in
set_option maxRecDepth 100000 in
theorem r_X3_coefficientAt (l : Launch) (dC : Nat → ClassId) (dI : Nat → Nat → Nat) (h0 sz : Nat) (f3 : List Value) (c0 : Int32) (h10 : f3[10]? = some (.int 0)) (h12 : f3[12]? = some (.int (-1))) : Met l yX3_coefficientAt wk_X3_coefficientAt ({ frames := 7, cells := 0, slots := 0, locals := 130 } : Room) (mP dC dI [(h0, .inr (3, f3))] [] sz [.ref h0, .int c0]) (va_Qi (S := Unit) (fun r _ => r = 0) (fun _ _ => True) (nw sz)) 0 0 (nw sz) := by
  refine Met.ofW (cc := cX3_coefficientAt) (maxL := 2) (ret := (some .int)) (by decide) rfl ?_
  intro p e s m args below meth c s₁ B hml hv
  obtain ⟨rfl, hsz, hP, hK, hD0⟩ := hv
  have hx := B.exec
  have hb := B.bytes
  have hr := B.returns
  have hts := atoms_spec (ws := wk_X3_coefficientAt) B.pre
  have hu : ∀ w ∈ wU, w.before ([.ref h0, .int c0] : List Value).toArray s = true := fun w h => hts w (List.mem_cons_of_mem _ h)
  have hown : s.vm.findClass RX3 = some m.cls := findClass_of_methodNamed B.named
  have hlocks := B.notSynchronized
  subst hsz
  have hA : ∀ q : Nat, s.heap.size ≤ q → nw s.heap.size q := fun _ h => h
  have hS : va_S (nw s.heap.size) s.heap s.heap [] := va_S.rf
  have hl := lv_entry ([.ref h0, .int c0]) (n := 2) (Nat.le_of_ble_eq_true rfl)
  rw [lg_entry_eq]
  generalize (lg_sl ([.ref h0, .int c0]) ++ List.replicate (2 - (lg_sl ([.ref h0, .int c0])).length) Slot.unset).toArray = ls at hl ⊢
  have hl : lv_has ls 2 [(0, .ref h0), (1, .int c0)] := hl
  refine lv_iload_n hx hb dX3_coefficientAt_0 rfl (lv_at hl 1 rfl) ?_
  refine lv_if_lt (tgt := 17) hx hb dX3_coefficientAt_1 (by decide) (fun c1 => ?_) (fun c1 => ?_)
  · skip
    refine lv_iconst (v := 0) hx hb dX3_coefficientAt_17 (by decide) ?_
    refine lv_goto (tgt := 33) hx hb dX3_coefficientAt_18 (by decide) ?_
    exact W.iret (v := 0) hx hb hr (fun t ht hW => ⟨⟨0, (), rfl, rfl, trivial⟩, hS.F ht⟩) hS.2.2 dX3_coefficientAt_33
  · skip
    refine lv_iload_n hx hb dX3_coefficientAt_4 rfl (lv_at hl 1 rfl) ?_
    refine lv_bipush (v := 64) hx hb dX3_coefficientAt_5 (by decide) ?_
    refine lv_icmp_ge (tgt := 17) hx hb dX3_coefficientAt_7 (by decide) (fun c2 => ?_) (fun c2 => ?_)
    · skip
      refine lv_iconst (v := 0) hx hb dX3_coefficientAt_17 (by decide) ?_
      refine lv_goto (tgt := 33) hx hb dX3_coefficientAt_18 (by decide) ?_
      exact W.iret (v := 0) hx hb hr (fun t ht hW => ⟨⟨0, (), rfl, rfl, trivial⟩, hS.F ht⟩) hS.2.2 dX3_coefficientAt_33
    · skip
      refine lv_aload_n hx hb dX3_coefficientAt_10 rfl (lv_at hl 0 rfl) ?_
      refine va_get (D := (dC, dI)) (ci := 3) (v := .int 0) (C := RX3) (T := TX3) (N := 13) hx hb hu iX3 hown hK hP 0 rfl rfl 10 (by decide) (hu _ u586) (fun _ h9 => h9) h10 dX3_coefficientAt_11 ?_
      refine lv_if_ne (tgt := 21) hx hb dX3_coefficientAt_14 (by decide) (fun h9 => absurd (by decide) h9) (fun _ => ?_)
      refine lv_iconst (v := 0) hx hb dX3_coefficientAt_17 (by decide) ?_
      refine lv_goto (tgt := 33) hx hb dX3_coefficientAt_18 (by decide) ?_
      exact W.iret (v := 0) hx hb hr (fun t ht hW => ⟨⟨0, (), rfl, rfl, trivial⟩, hS.F ht⟩) hS.2.2 dX3_coefficientAt_33
def wk_X3_rootAt : List Cond := .code yX3_rootAt cX3_rootAt 2 (some .int) :: wU
set_option maxHeartbeats 4000000 in
set_option maxRecDepth 100000 in
theorem r_X3_rootAt (l : Launch) (dC : Nat → ClassId) (dI : Nat → Nat → Nat) (h0 sz : Nat) (f3 : List Value) (c0 : Int32) (h10 : f3[10]? = some (.int 0)) (h12 : f3[12]? = some (.int (-1))) : Met l yX3_rootAt wk_X3_rootAt ({ frames := 7, cells := 0, slots := 0, locals := 130 } : Room) (mP dC dI [(h0, .inr (3, f3))] [] sz [.ref h0, .int c0]) (va_Qi (S := Unit) (fun r _ => r = -1) (fun _ _ => True) (nw sz)) 0 0 (nw sz) := by
  refine Met.ofW (cc := cX3_rootAt) (maxL := 2) (ret := (some .int)) (by decide) rfl ?_
  intro p e s m args below meth c s₁ B hml hv
  obtain ⟨rfl, hsz, hP, hK, hD0⟩ := hv
  have hx := B.exec
  have hb := B.bytes
  have hr := B.returns
  have hts := atoms_spec (ws := wk_X3_rootAt) B.pre
  have hu : ∀ w ∈ wU, w.before ([.ref h0, .int c0] : List Value).toArray s = true := fun w h => hts w (List.mem_cons_of_mem _ h)
  have hown : s.vm.findClass RX3 = some m.cls := findClass_of_methodNamed B.named
  have hlocks := B.notSynchronized
  subst hsz
  have hA : ∀ q : Nat, s.heap.size ≤ q → nw s.heap.size q := fun _ h => h
  have hS : va_S (nw s.heap.size) s.heap s.heap [] := va_S.rf
  have hl := lv_entry ([.ref h0, .int c0]) (n := 2) (Nat.le_of_ble_eq_true rfl)
  rw [lg_entry_eq]
  generalize (lg_sl ([.ref h0, .int c0]) ++ List.replicate (2 - (lg_sl ([.ref h0, .int c0])).length) Slot.unset).toArray = ls at hl ⊢
  have hl : lv_has ls 2 [(0, .ref h0), (1, .int c0)] := hl
  refine lv_aload_n hx hb dX3_rootAt_0 rfl (lv_at hl 0 rfl) ?_
  refine va_get (D := (dC, dI)) (ci := 3) (v := .int (-1)) (C := RX3) (T := TX3) (N := 13) hx hb hu iX3 hown hK hP 0 rfl rfl 12 (by decide) (hu _ u42) (fun _ h9 => h9) h12 dX3_rootAt_1 ?_
  refine lv_iconst (v := (-1)) hx hb dX3_rootAt_4 (by decide) ?_
  refine lv_icmp_ne (tgt := 10) hx hb dX3_rootAt_5 (by decide) (fun h9 => absurd (by decide) h9) (fun _ => ?_)
  refine lv_iconst (v := (-1)) hx hb dX3_rootAt_8 (by decide) ?_
  exact W.iret (v := (-1)) hx hb hr (fun t ht hW => ⟨⟨(-1), (), rfl, rfl, trivial⟩, hS.F ht⟩) hS.2.2 dX3_rootAt_9
def wk_X11_coefficient : List Cond := .code yX11_coefficient cX11_coefficient 2 (some .int) :: wU
set_option maxHeartbeats 4000000 in
set_option maxRecDepth 100000 in
theorem r_X11_coefficient (l : Launch) (dC : Nat → ClassId) (dI : Nat → Nat → Nat) (h0 sz : Nat) (fs f3 : List Value) (q3 : Nat) (c0 : Int32) (h14 : fs[14]? = some (.ref q3)) (h10 : f3[10]? = some (.int 0)) (h12 : f3[12]? = some (.int (-1))) : Met l yX11_coefficient wk_X11_coefficient ({ frames := 8, cells := 0, slots := 0, locals := 151 } : Room) (mP dC dI [(h0, .inr (11, fs)), (q3, .inr (3, f3))] [] sz [.ref h0, .int c0]) (va_Qi (S := Unit) (fun r _ => r = 0) (fun _ _ => True) (nw sz)) 0 0 (nw sz) := by
  refine Met.ofW (cc := cX11_coefficient) (maxL := 2) (ret := (some .int)) (by decide) rfl ?_
  intro p e s m args below meth c s₁ B hml hv
  obtain ⟨rfl, hsz, hP, hK, hD0⟩ := hv
  have hx := B.exec
  have hb := B.bytes
  have hr := B.returns
  have hts := atoms_spec (ws := wk_X11_coefficient) B.pre
  have hu : ∀ w ∈ wU, w.before ([.ref h0, .int c0] : List Value).toArray s = true := fun w h => hts w (List.mem_cons_of_mem _ h)
  have hown : s.vm.findClass RX11 = some m.cls := findClass_of_methodNamed B.named
  have hlocks := B.notSynchronized
  subst hsz
  have hA : ∀ q : Nat, s.heap.size ≤ q → nw s.heap.size q := fun _ h => h
  have hS : va_S (nw s.heap.size) s.heap s.heap [] := va_S.rf
  have hl := lv_entry ([.ref h0, .int c0]) (n := 2) (Nat.le_of_ble_eq_true rfl)
  rw [lg_entry_eq]
  generalize (lg_sl ([.ref h0, .int c0]) ++ List.replicate (2 - (lg_sl ([.ref h0, .int c0])).length) Slot.unset).toArray = ls at hl ⊢
  have hl : lv_has ls 2 [(0, .ref h0), (1, .int c0)] := hl
  refine lv_aload_n hx hb dX11_coefficient_0 rfl (lv_at hl 0 rfl) ?_
  refine va_get (D := (dC, dI)) (ci := 11) (v := .ref q3) (C := RX11) (T := TX11) (N := 16) hx hb hu iX11 hown hK hP 0 rfl rfl 14 (by decide) (hu _ u152) (fun _ h9 => h9) h14 dX11_coefficient_1 ?_
  refine lv_iload_n hx hb dX11_coefficient_4 rfl (lv_at hl 1 rfl) ?_
  have hPc := hP.sub (ws' := [(q3, .inr (3, f3))]) [1] rfl
  have hDc := hD0.sub (ws' := [(q3, .inr (3, f3))]) [1] (by decide) rfl
  refine va_calli (va_runV (As := [.int c0]) (rest := []) ⟨hx, hb, hml, hown, hu⟩ (r_X3_coefficientAt l dC dI q3 _ f3 c0 h10 h12) (cwV 1 hu (gV u587 u588 u589 u148 u590) rfl rfl rfl (by decide +kernel) ⟨(Nat.le_of_ble_eq_true rfl), (Nat.le_of_ble_eq_true rfl)⟩) ⟨mP_blind, va_recv hK hPc (ci := 3) (q0 := 0) rfl rfl, mP_at hPc hK hDc⟩ rfl rfl hl.1 rfl (lv_room (Nat.le_of_ble_eq_true rfl)) dX11_coefficient_5 ⟨Nat.zero_le _, Nat.zero_le _⟩) hS (fun q hq h => absurd h (Nat.not_le.mpr hq)) (fun q h => hA q (Nat.le_trans hS.1 h)) (fun r1 u9 t H1 locs ht hvm hw hB hz1 hk1 hS => ?_)
  have hw : r1 = 0 := hw
  subst hw
  exact W.iret (v := (0)) hx hb hr (fun t ht hW => ⟨⟨(0), (), rfl, rfl, trivial⟩, hS.F ht⟩) hS.2.2 dX11_coefficient_8
def wk_X11_root : List Cond := .code yX11_root cX11_root 2 (some .int) :: wU
set_option maxHeartbeats 4000000 in
set_option maxRecDepth 100000 in
theorem r_X11_root (l : Launch) (dC : Nat → ClassId) (dI : Nat → Nat → Nat) (h0 sz : Nat) (fs f3 : List Value) (q3 : Nat) (c0 : Int32) (h14 : fs[14]? = some (.ref q3)) (h10 : f3[10]? = some (.int 0)) (h12 : f3[12]? = some (.int (-1))) : Met l yX11_root wk_X11_root ({ frames := 8, cells := 0, slots := 0, locals := 151 } : Room) (mP dC dI [(h0, .inr (11, fs)), (q3, .inr (3, f3))] [] sz [.ref h0, .int c0]) (va_Qi (S := Unit) (fun r _ => r = -1) (fun _ _ => True) (nw sz)) 0 0 (nw sz) := by
  refine Met.ofW (cc := cX11_root) (maxL := 2) (ret := (some .int)) (by decide) rfl ?_
  intro p e s m args below meth c s₁ B hml hv
  obtain ⟨rfl, hsz, hP, hK, hD0⟩ := hv
  have hx := B.exec
  have hb := B.bytes
  have hr := B.returns
  have hts := atoms_spec (ws := wk_X11_root) B.pre
  have hu : ∀ w ∈ wU, w.before ([.ref h0, .int c0] : List Value).toArray s = true := fun w h => hts w (List.mem_cons_of_mem _ h)
  have hown : s.vm.findClass RX11 = some m.cls := findClass_of_methodNamed B.named
  have hlocks := B.notSynchronized
  subst hsz
  have hA : ∀ q : Nat, s.heap.size ≤ q → nw s.heap.size q := fun _ h => h
  have hS : va_S (nw s.heap.size) s.heap s.heap [] := va_S.rf
  have hl := lv_entry ([.ref h0, .int c0]) (n := 2) (Nat.le_of_ble_eq_true rfl)
  rw [lg_entry_eq]
  generalize (lg_sl ([.ref h0, .int c0]) ++ List.replicate (2 - (lg_sl ([.ref h0, .int c0])).length) Slot.unset).toArray = ls at hl ⊢
  have hl : lv_has ls 2 [(0, .ref h0), (1, .int c0)] := hl
  refine lv_aload_n hx hb dX11_root_0 rfl (lv_at hl 0 rfl) ?_
  refine va_get (D := (dC, dI)) (ci := 11) (v := .ref q3) (C := RX11) (T := TX11) (N := 16) hx hb hu iX11 hown hK hP 0 rfl rfl 14 (by decide) (hu _ u152) (fun _ h9 => h9) h14 dX11_root_1 ?_
  refine lv_iload_n hx hb dX11_root_4 rfl (lv_at hl 1 rfl) ?_
  have hPc := hP.sub (ws' := [(q3, .inr (3, f3))]) [1] rfl
  have hDc := hD0.sub (ws' := [(q3, .inr (3, f3))]) [1] (by decide) rfl
  refine va_calli (va_runV (As := [.int c0]) (rest := []) ⟨hx, hb, hml, hown, hu⟩ (r_X3_rootAt l dC dI q3 _ f3 c0 h10 h12) (cwV 1 hu (gV u591 u592 u593 u148 u594) rfl rfl rfl (by decide +kernel) ⟨(Nat.le_of_ble_eq_true rfl), (Nat.le_of_ble_eq_true rfl)⟩) ⟨mP_blind, va_recv hK hPc (ci := 3) (q0 := 0) rfl rfl, mP_at hPc hK hDc⟩ rfl rfl hl.1 rfl (lv_room (Nat.le_of_ble_eq_true rfl)) dX11_root_5 ⟨Nat.zero_le _, Nat.zero_le _⟩) hS (fun q hq h => absurd h (Nat.not_le.mpr hq)) (fun q h => hA q (Nat.le_trans hS.1 h)) (fun r1 u9 t H1 locs ht hvm hw hB hz1 hk1 hS => ?_)
  have hw : r1 = -1 := hw
  subst hw
  exact W.iret (v := (-1)) hx hb hr (fun t ht hW => ⟨⟨(-1), (), rfl, rfl, trivial⟩, hS.F ht⟩) hS.2.2 dX11_root_8
def wk_X11_octet : List Cond := .code yX11_octet cX11_octet 2 (some .int) :: wU
set_option maxHeartbeats 4000000 in
set_option maxRecDepth 100000 in
theorem r_X11_octet (l : Launch) (dC : Nat → ClassId) (dI : Nat → Nat → Nat) (h0 sz : Nat) (fs : List Value) (c0 : Int32) (hf : xF fs) : Met l yX11_octet wk_X11_octet ({ frames := 7, cells := 0, slots := 0, locals := 130 } : Room) (mP dC dI [(h0, .inr (11, fs))] [] sz [.ref h0, .int c0]) (va_Qi (S := Unit) (fun r _ => r = -1) (fun _ _ => True) (nw sz)) 0 0 (nw sz) := by
  refine Met.ofW (cc := cX11_octet) (maxL := 2) (ret := (some .int)) (by decide) rfl ?_
  intro p e s m args below meth c s₁ B hml hv
  obtain ⟨rfl, hsz, hP, hK, hD0⟩ := hv
  have hx := B.exec
  have hb := B.bytes
  have hr := B.returns
  have hts := atoms_spec (ws := wk_X11_octet) B.pre
  have hu : ∀ w ∈ wU, w.before ([.ref h0, .int c0] : List Value).toArray s = true := fun w h => hts w (List.mem_cons_of_mem _ h)
  have hown : s.vm.findClass RX11 = some m.cls := findClass_of_methodNamed B.named
  have hlocks := B.notSynchronized
  subst hsz
  have hA : ∀ q : Nat, s.heap.size ≤ q → nw s.heap.size q := fun _ h => h
  have hS : va_S (nw s.heap.size) s.heap s.heap [] := va_S.rf
  have hl := lv_entry ([.ref h0, .int c0]) (n := 2) (Nat.le_of_ble_eq_true rfl)
  rw [lg_entry_eq]
  generalize (lg_sl ([.ref h0, .int c0]) ++ List.replicate (2 - (lg_sl ([.ref h0, .int c0])).length) Slot.unset).toArray = ls at hl ⊢
  have hl : lv_has ls 2 [(0, .ref h0), (1, .int c0)] := hl
  refine lv_iload_n hx hb dX11_octet_0 rfl (lv_at hl 1 rfl) ?_
  refine lv_if_lt (tgt := 21) hx hb dX11_octet_1 (by decide) (fun c1 => ?_) (fun c1 => ?_)
  · skip
    refine lv_iconst (v := (-1)) hx hb dX11_octet_21 (by decide) ?_
    refine lv_goto (tgt := 31) hx hb dX11_octet_22 (by decide) ?_
    exact W.iret (v := (-1)) hx hb hr (fun t ht hW => ⟨⟨(-1), (), rfl, rfl, trivial⟩, hS.F ht⟩) hS.2.2 dX11_octet_31
  · skip
    refine lv_iload_n hx hb dX11_octet_4 rfl (lv_at hl 1 rfl) ?_
    refine lv_aload_n hx hb dX11_octet_5 rfl (lv_at hl 0 rfl) ?_
    refine va_get (D := (dC, dI)) (ci := 11) (v := .int 0) (C := RX11) (T := TX11) (N := 16) hx hb hu iX11 hown hK hP 0 rfl rfl 5 (by decide) (hu _ u595) (fun _ h9 => h9) hf.2.2.1 dX11_octet_6 ?_
    refine lv_icmp_ge (tgt := 21) hx hb dX11_octet_9 (by decide) (fun _ => ?_) (fun h9 => absurd (Int32.not_lt.mp c1) h9)
    refine lv_iconst (v := (-1)) hx hb dX11_octet_21 (by decide) ?_
    refine lv_goto (tgt := 31) hx hb dX11_octet_22 (by decide) ?_
    exact W.iret (v := (-1)) hx hb hr (fun t ht hW => ⟨⟨(-1), (), rfl, rfl, trivial⟩, hS.F ht⟩) hS.2.2 dX11_octet_31
def wk_X11_counted : List Cond := .code yX11_counted cX11_counted 2 (some .int) :: wU
set_option maxHeartbeats 4000000 in
set_option maxRecDepth 100000 in
theorem r_X11_counted (l : Launch) (dC : Nat → ClassId) (dI : Nat → Nat → Nat) (h0 sz : Nat) (fs : List Value) (c0 : Int32) (hf : xF fs) : Met l yX11_counted wk_X11_counted ({ frames := 7, cells := 0, slots := 0, locals := 130 } : Room) (mP dC dI [(h0, .inr (11, fs))] [] sz [.ref h0, .int c0]) (va_Qi (S := Unit) (fun r _ => r = cnt c0) (fun _ _ => True) (nw sz)) 0 0 (nw sz) := by
  refine Met.ofW (cc := cX11_counted) (maxL := 2) (ret := (some .int)) (by decide) rfl ?_
  intro p e s m args below meth c s₁ B hml hv
  obtain ⟨rfl, hsz, hP, hK, hD0⟩ := hv
  have hx := B.exec
  have hb := B.bytes
  have hr := B.returns
  have hts := atoms_spec (ws := wk_X11_counted) B.pre
  have hu : ∀ w ∈ wU, w.before ([.ref h0, .int c0] : List Value).toArray s = true := fun w h => hts w (List.mem_cons_of_mem _ h)
  have hown : s.vm.findClass RX11 = some m.cls := findClass_of_methodNamed B.named
  have hlocks := B.notSynchronized
  subst hsz
  have hA : ∀ q : Nat, s.heap.size ≤ q → nw s.heap.size q := fun _ h => h
  have hS : va_S (nw s.heap.size) s.heap s.heap [] := va_S.rf
  have hl := lv_entry ([.ref h0, .int c0]) (n := 2) (Nat.le_of_ble_eq_true rfl)
  rw [lg_entry_eq]
  generalize (lg_sl ([.ref h0, .int c0]) ++ List.replicate (2 - (lg_sl ([.ref h0, .int c0])).length) Slot.unset).toArray = ls at hl ⊢
  have hl : lv_has ls 2 [(0, .ref h0), (1, .int c0)] := hl
  refine lv_iload_n hx hb dX11_counted_0 rfl (lv_at hl 1 rfl) ?_
  by_cases e0 : c0 = 0
  · subst e0
    refine lv_tableIn (off := 27) (tgt := 28) hx hb dX11_counted_1 (by decide) (by decide) (by decide) (by decide) ?_
    refine lv_aload_n hx hb dX11_counted_28 rfl (lv_at hl 0 rfl) ?_
    refine va_get (D := (dC, dI)) (ci := 11) (v := .int 0) (C := RX11) (T := TX11) (N := 16) hx hb hu iX11 hown hK hP 0 rfl rfl 1 (by decide) (hu _ u426) (fun _ h9 => h9) hf.1 dX11_counted_29 ?_
    exact W.iret (v := 0) hx hb hr (fun t ht hW => ⟨⟨0, (), rfl, by decide, trivial⟩, hS.F ht⟩) hS.2.2 dX11_counted_32
  by_cases e1 : c0 = 1
  · subst e1
    refine lv_tableIn (off := 32) (tgt := 33) hx hb dX11_counted_1 (by decide) (by decide) (by decide) (by decide) ?_
    refine lv_aload_n hx hb dX11_counted_33 rfl (lv_at hl 0 rfl) ?_
    refine va_get (D := (dC, dI)) (ci := 11) (v := .int 0) (C := RX11) (T := TX11) (N := 16) hx hb hu iX11 hown hK hP 0 rfl rfl 3 (by decide) (hu _ u427) (fun _ h9 => h9) hf.2.1 dX11_counted_34 ?_
    exact W.iret (v := 0) hx hb hr (fun t ht hW => ⟨⟨0, (), rfl, by decide, trivial⟩, hS.F ht⟩) hS.2.2 dX11_counted_37
  by_cases e2 : c0 = 2
  · subst e2
    refine lv_tableIn (off := 37) (tgt := 38) hx hb dX11_counted_1 (by decide) (by decide) (by decide) (by decide) ?_
    refine lv_aload_n hx hb dX11_counted_38 rfl (lv_at hl 0 rfl) ?_
    refine va_get (D := (dC, dI)) (ci := 11) (v := .int 0) (C := RX11) (T := TX11) (N := 16) hx hb hu iX11 hown hK hP 0 rfl rfl 5 (by decide) (hu _ u595) (fun _ h9 => h9) hf.2.2.1 dX11_counted_39 ?_
    exact W.iret (v := 0) hx hb hr (fun t ht hW => ⟨⟨0, (), rfl, by decide, trivial⟩, hS.F ht⟩) hS.2.2 dX11_counted_42
  refine lv_tableOut (tgt := 43) hx hb dX11_counted_1 (by have a0 := lv_neT e0 (a := 0) (by decide); have a1 := lv_neT e1 (a := 1) (by decide); have a2 := lv_neT e2 (a := 2) (by decide); omega) (by decide) ?_
  refine lv_iconst (v := (-1)) hx hb dX11_counted_43 (by decide) ?_
  exact W.iret (v := (-1)) hx hb hr (fun t ht hW => ⟨⟨(-1), (), rfl, by unfold cnt; rw [if_neg (fun h => by rcases h with h | h | h; exact e0 h; exact e1 h; exact e2 h)], trivial⟩, hS.F ht⟩) hS.2.2 dX11_counted_44
def wk_X15_isFar : List Cond := .code yX15_isFar cX15_isFar 2 (some .boolean) :: wU
set_option maxHeartbeats 4000000 in
set_option maxRecDepth 100000 in
theorem f_X15_isFar (l : Launch) (v : Int64) : Met l yX15_isFar wk_X15_isFar ({ frames := 7, cells := 0, slots := 0, locals := 130 } : Room) (va_Pc [.long v] (fun _ => True)) (va_Qi (S := Unit) (fun r _ => r = farL v) (fun _ _ => True) (fun _ => False)) 0 0 (fun _ => False) := by
  refine Met.ofW (cc := cX15_isFar) (maxL := 2) (ret := (some .boolean)) (by decide) rfl ?_
  intro p e s m args below meth c s₁ B hml hv
  obtain ⟨rfl, -⟩ := hv
  have hx := B.exec
  have hb := B.bytes
  have hr := B.returns
  have hts := atoms_spec (ws := wk_X15_isFar) B.pre
  have hu : ∀ w ∈ wU, w.before ([.long v] : List Value).toArray s = true := fun w h => hts w (List.mem_cons_of_mem _ h)
  have hown : s.vm.findClass RX15 = some m.cls := findClass_of_methodNamed B.named
  have hlocks := B.notSynchronized
  have hS : va_S (fun _ => False) s.heap s.heap [] := va_S.rf
  have hl := lv_entry ([.long v]) (n := 2) (Nat.le_of_ble_eq_true rfl)
  rw [lg_entry_eq]
  generalize (lg_sl ([.long v]) ++ List.replicate (2 - (lg_sl ([.long v])).length) Slot.unset).toArray = ls at hl ⊢
  have hl : lv_has ls 2 [(0, .long v)] := hl
  refine lv_lload_n hx hb dX15_isFar_0 rfl (lv_at hl 0 rfl) ?_
  refine lv_ldc2 (v := -10000) hx hb hown (hu _ u596) dX15_isFar_1 ?_
  refine W.lcmp hx hb dX15_isFar_4 ?_
  refine lv_if_lt (tgt := 16) hx hb dX15_isFar_5 (by decide) (fun k1 => ?_) (fun k1 => ?_)
  · skip
    refine lv_iconst (v := 1) hx hb dX15_isFar_16 (by decide) ?_
    refine lv_goto (tgt := 21) hx hb dX15_isFar_17 (by decide) ?_
    exact W.zret (v := 1) (ty := .boolean) hx hb hr rfl (fun t ht hW => ⟨⟨1, (), rfl, by unfold farL; rw [if_pos (by first | exact Or.inl ((lg_cmp_lt _ _).mp k1) | exact Or.inr (Int64.not_le.mp (fun h => k1 ((lg_cmp_le _ _).mpr h))))], trivial⟩, hS.F ht⟩) hS.2.2 dX15_isFar_21
  · skip
    refine lv_lload_n hx hb dX15_isFar_8 rfl (lv_at hl 0 rfl) ?_
    refine lv_ldc2 (v := 10000) hx hb hown (hu _ u597) dX15_isFar_9 ?_
    refine W.lcmp hx hb dX15_isFar_12 ?_
    refine lv_if_le (tgt := 20) hx hb dX15_isFar_13 (by decide) (fun k2 => ?_) (fun k2 => ?_)
    · skip
      refine lv_iconst (v := 0) hx hb dX15_isFar_20 (by decide) ?_
      exact W.zret (v := 0) (ty := .boolean) hx hb hr rfl (fun t ht hW => ⟨⟨0, (), rfl, by unfold farL; rw [if_neg (fun h => h.elim (fun h => k1 ((lg_cmp_lt _ _).mpr h)) (fun h => Int64.not_lt.mpr ((lg_cmp_le _ _).mp k2) h))], trivial⟩, hS.F ht⟩) hS.2.2 dX15_isFar_21
    · skip
      refine lv_iconst (v := 1) hx hb dX15_isFar_16 (by decide) ?_
      refine lv_goto (tgt := 21) hx hb dX15_isFar_17 (by decide) ?_
      exact W.zret (v := 1) (ty := .boolean) hx hb hr rfl (fun t ht hW => ⟨⟨1, (), rfl, by unfold farL; rw [if_pos (by first | exact Or.inl ((lg_cmp_lt _ _).mp k2) | exact Or.inr (Int64.not_le.mp (fun h => k2 ((lg_cmp_le _ _).mpr h))))], trivial⟩, hS.F ht⟩) hS.2.2 dX15_isFar_21
def wk_X15_worth : List Cond := .code yX15_worth cX15_worth 5 (some .long) :: wU
set_option maxHeartbeats 4000000 in
set_option maxRecDepth 100000 in
theorem f_X15_worth (l : Launch) (a b : Int64) : Met l yX15_worth wk_X15_worth ({ frames := 7, cells := 0, slots := 0, locals := 130 } : Room) (va_Pc [.long a, .long b, .int 0] (fun _ => True)) (va_Ql (S := Unit) (fun r _ => r = 4 * a * a * a + 27 * b * b) (fun _ _ => True) (fun _ => False)) 0 0 (fun _ => False) := by
  refine Met.ofW (cc := cX15_worth) (maxL := 5) (ret := (some .long)) (by decide) rfl ?_
  intro p e s m args below meth c s₁ B hml hv
  obtain ⟨rfl, -⟩ := hv
  have hx := B.exec
  have hb := B.bytes
  have hr := B.returns
  have hts := atoms_spec (ws := wk_X15_worth) B.pre
  have hu : ∀ w ∈ wU, w.before ([.long a, .long b, .int 0] : List Value).toArray s = true := fun w h => hts w (List.mem_cons_of_mem _ h)
  have hown : s.vm.findClass RX15 = some m.cls := findClass_of_methodNamed B.named
  have hlocks := B.notSynchronized
  have hS : va_S (fun _ => False) s.heap s.heap [] := va_S.rf
  have hl := lv_entry ([.long a, .long b, .int 0]) (n := 5) (Nat.le_of_ble_eq_true rfl)
  rw [lg_entry_eq]
  generalize (lg_sl ([.long a, .long b, .int 0]) ++ List.replicate (5 - (lg_sl ([.long a, .long b, .int 0])).length) Slot.unset).toArray = ls at hl ⊢
  have hl : lv_has ls 5 [(0, .long a), (2, .long b), (4, .int 0)] := hl
  refine lv_iload hx hb dX15_worth_0 (lv_at hl 2 rfl) ?_
  refine lv_if_ne (tgt := 23) hx hb dX15_worth_2 (by decide) (fun h9 => absurd (by decide) h9) (fun _ => ?_)
  refine lv_ldc2 (v := 4) hx hb hown (hu _ u598) dX15_worth_5 ?_
  refine lv_lload_n hx hb dX15_worth_8 rfl (lv_at hl 0 rfl) ?_
  refine lv_lmul hx hb dX15_worth_9 ?_
  refine lv_lload_n hx hb dX15_worth_10 rfl (lv_at hl 0 rfl) ?_
  refine lv_lmul hx hb dX15_worth_11 ?_
  refine lv_lload_n hx hb dX15_worth_12 rfl (lv_at hl 0 rfl) ?_
  refine lv_lmul hx hb dX15_worth_13 ?_
  refine lv_ldc2 (v := 27) hx hb hown (hu _ u599) dX15_worth_14 ?_
  refine lv_lload_n hx hb dX15_worth_17 rfl (lv_at hl 1 rfl) ?_
  refine lv_lmul hx hb dX15_worth_18 ?_
  refine lv_lload_n hx hb dX15_worth_19 rfl (lv_at hl 1 rfl) ?_
  refine lv_lmul hx hb dX15_worth_20 ?_
  refine lv_ladd hx hb dX15_worth_21 ?_
  exact W.lret hx hb hr (fun t ht hW => ⟨⟨_, (), rfl, rfl, trivial⟩, hS.F ht⟩) hS.2.2 dX15_worth_22
def wk_X2_worthOf : List Cond := .code yX2_worthOf cX2_worthOf 6 (some .long) :: wU
set_option maxHeartbeats 4000000 in
set_option maxRecDepth 100000 in
theorem f_X2_worthOf (l : Launch) (a b : Int64) : Met l yX2_worthOf wk_X2_worthOf ({ frames := 7, cells := 0, slots := 0, locals := 130 } : Room) (va_Pc [.long a, .long b, .long 0] (fun _ => True)) (va_Ql (S := Unit) (fun r _ => r = 4 * a * a * a + 27 * b * b) (fun _ _ => True) (fun _ => False)) 0 0 (fun _ => False) := by
  refine Met.ofW (cc := cX2_worthOf) (maxL := 6) (ret := (some .long)) (by decide) rfl ?_
  intro p e s m args below meth c s₁ B hml hv
  obtain ⟨rfl, -⟩ := hv
  have hx := B.exec
  have hb := B.bytes
  have hr := B.returns
  have hts := atoms_spec (ws := wk_X2_worthOf) B.pre
  have hu : ∀ w ∈ wU, w.before ([.long a, .long b, .long 0] : List Value).toArray s = true := fun w h => hts w (List.mem_cons_of_mem _ h)
  have hown : s.vm.findClass RX2 = some m.cls := findClass_of_methodNamed B.named
  have hlocks := B.notSynchronized
  have hS : va_S (fun _ => False) s.heap s.heap [] := va_S.rf
  have hl := lv_entry ([.long a, .long b, .long 0]) (n := 6) (Nat.le_of_ble_eq_true rfl)
  rw [lg_entry_eq]
  generalize (lg_sl ([.long a, .long b, .long 0]) ++ List.replicate (6 - (lg_sl ([.long a, .long b, .long 0])).length) Slot.unset).toArray = ls at hl ⊢
  have hl : lv_has ls 6 [(0, .long a), (2, .long b), (4, .long 0)] := hl
  refine lv_lload hx hb dX2_worthOf_0 (lv_at hl 2 rfl) ?_
  refine lv_lconst (v := 0) hx hb dX2_worthOf_2 (by decide) ?_
  refine W.lcmp hx hb dX2_worthOf_3 ?_
  rw [show lg_cmp 0 0 = 0 from by decide]
  refine lv_if_ne (tgt := 25) hx hb dX2_worthOf_4 (by decide) (fun h9 => absurd (by decide) h9) (fun _ => ?_)
  refine lv_ldc2 (v := 4) hx hb hown (hu _ u600) dX2_worthOf_7 ?_
  refine lv_lload_n hx hb dX2_worthOf_10 rfl (lv_at hl 0 rfl) ?_
  refine lv_lmul hx hb dX2_worthOf_11 ?_
  refine lv_lload_n hx hb dX2_worthOf_12 rfl (lv_at hl 0 rfl) ?_
  refine lv_lmul hx hb dX2_worthOf_13 ?_
  refine lv_lload_n hx hb dX2_worthOf_14 rfl (lv_at hl 0 rfl) ?_
  refine lv_lmul hx hb dX2_worthOf_15 ?_
  refine lv_ldc2 (v := 27) hx hb hown (hu _ u601) dX2_worthOf_16 ?_
  refine lv_lload_n hx hb dX2_worthOf_19 rfl (lv_at hl 1 rfl) ?_
  refine lv_lmul hx hb dX2_worthOf_20 ?_
  refine lv_lload_n hx hb dX2_worthOf_21 rfl (lv_at hl 1 rfl) ?_
  refine lv_lmul hx hb dX2_worthOf_22 ?_
  refine lv_ladd hx hb dX2_worthOf_23 ?_
  exact W.lret hx hb hr (fun t ht hW => ⟨⟨_, (), rfl, rfl, trivial⟩, hS.F ht⟩) hS.2.2 dX2_worthOf_24
def wk_X15_gives : List Cond := .code yX15_gives cX15_gives 3 (some .int) :: wU
set_option maxHeartbeats 4000000 in
set_option maxRecDepth 100000 in
theorem r_X15_gives (l : Launch) (dC : Nat → ClassId) (dI : Nat → Nat → Nat) (h0 sz : Nat) (fs : List Value) (hlen : fs.length = 74) : Met l yX15_gives wk_X15_gives ({ frames := 7, cells := 0, slots := 0, locals := 130 } : Room) (mP dC dI [(h0, .inr (15, fs))] [] sz [.ref h0, .int 0, .int 2]) (va_Qi (S := Unit) (fun r _ => r = 0) (fun _ t => va_P (dC, dI) clx [(h0, .inr (15, (fs.set 0 (.int 0))))] t.heap) (va_A [(h0, .inr (15, fs))] sz)) 0 0 (va_A [(h0, .inr (15, fs))] sz) := by
  refine Met.ofW (cc := cX15_gives) (maxL := 3) (ret := (some .int)) (by decide) rfl ?_
  intro p e s m args below meth c s₁ B hml hv
  obtain ⟨rfl, hsz, hP, hK, hD0⟩ := hv
  have hx := B.exec
  have hb := B.bytes
  have hr := B.returns
  have hts := atoms_spec (ws := wk_X15_gives) B.pre
  have hu : ∀ w ∈ wU, w.before ([.ref h0, .int 0, .int 2] : List Value).toArray s = true := fun w h => hts w (List.mem_cons_of_mem _ h)
  have hown : s.vm.findClass RX15 = some m.cls := findClass_of_methodNamed B.named
  have hlocks := B.notSynchronized
  subst hsz
  have hD := hD0.self (sz := s.heap.size)
  generalize hAe : va_A [(h0, .inr (15, fs))] s.heap.size = A at hD ⊢
  have hA : ∀ q : Nat, s.heap.size ≤ q → A q := fun q h => by rw [← hAe]; exact Or.inr h
  have hS : va_S A s.heap s.heap [] := va_S.rf
  have hl := lv_entry ([.ref h0, .int 0, .int 2]) (n := 3) (Nat.le_of_ble_eq_true rfl)
  rw [lg_entry_eq]
  generalize (lg_sl ([.ref h0, .int 0, .int 2]) ++ List.replicate (3 - (lg_sl ([.ref h0, .int 0, .int 2])).length) Slot.unset).toArray = ls at hl ⊢
  have hl : lv_has ls 3 [(0, .ref h0), (1, .int 0), (2, .int 2)] := hl
  refine lv_aload_n hx hb dX15_gives_0 rfl (lv_at hl 0 rfl) ?_
  refine lv_iload_n hx hb dX15_gives_1 rfl (lv_at hl 1 rfl) ?_
  refine lv_iconst (v := (-1)) hx hb dX15_gives_2 (by decide) ?_
  refine lv_icmp_ne (tgt := 10) hx hb dX15_gives_3 (by decide) (fun _ => ?_) (fun h9 => absurd h9 (by decide))
  refine lv_iconst (v := 0) hx hb dX15_gives_10 (by decide) ?_
  refine va_put (D := (dC, dI)) (ci := 15) (v := .int 0) (ty := .int) (C := RX15) (T := TX15) (N := 74) hx hb hu iX15 tyX15 tyX15_ok nmX15 hown hK hP hD hS 0 rfl rfl 0 (by decide) (hu _ u230) (fun _ h9 => h9) rfl (by decide +kernel) rfl rfl (by rw [hlen]; decide) dX15_gives_11 (fun H locs hP hD hS => ?_)
  have hP : va_P (dC, dI) clx [(h0, .inr (15, (fs.set 0 (.int 0))))] H := hP
  have hD : va_D A [(h0, .inr (15, (fs.set 0 (.int 0))))] := hD
  refine lv_iload_n hx hb dX15_gives_14 rfl (lv_at hl 1 rfl) ?_
  refine lv_iconst (v := (-1)) hx hb dX15_gives_15 (by decide) ?_
  refine lv_icmp_ne (tgt := 23) hx hb dX15_gives_16 (by decide) (fun _ => ?_) (fun h9 => absurd h9 (by decide))
  refine lv_iload_n hx hb dX15_gives_23 rfl (lv_at hl 1 rfl) ?_
  exact W.iret (v := 0) hx hb hr (fun t ht hW => ⟨⟨0, (), rfl, rfl, by show va_P _ _ _ t.heap; rw [ht]; exact hP⟩, hS.F ht⟩) hS.2.2 dX15_gives_24
def wk_X15_cubicOf : List Cond := .code yX15_cubicOf cX15_cubicOf 7 (some .int) :: wU
set_option maxHeartbeats 4000000 in
set_option maxRecDepth 100000 in
theorem r_X15_cubicOf (l : Launch) (dC : Nat → ClassId) (dI : Nat → Nat → Nat) (h0 sz : Nat) (fs : List Value) (q1 q2 q3 q4 q5 q6 : Nat) (y1 y2 y3 y4 y5 y6 : ClassId) (a b : Int64) (hm : mOK fs q1 q2 q3 q4 q5 q6) : Met l yX15_cubicOf wk_X15_cubicOf ({ frames := 7, cells := 0, slots := 0, locals := 130 } : Room) (mP dC dI [(h0, .inr (15, fs)), (q1, .inl (y1, 40, .inr (.inl (fun _ => 0)))), (q2, .inl (y2, 40, .inr (.inl (fun _ => 0)))), (q3, .inl (y3, 40, .inl (fun _ => 0))), (q4, .inl (y4, 40, .inl (fun _ => 0))), (q5, .inl (y5, 40, .inl (fun _ => 0))), (q6, .inl (y6, 40, .inl (fun _ => 0)))] [(y1, .long), (y2, .long), (y3, .int), (y4, .int), (y5, .boolean), (y6, .boolean)] sz [.ref h0, .long a, .long b, .int 0]) (va_Qi (S := Unit) (fun r _ => r = 0) (fun _ t => va_P (dC, dI) clx [(h0, .inr (15, (fs.set 12 (.int (0 + 1)))))] t.heap) (va_A [(h0, .inr (15, fs)), (q1, .inl (y1, 40, .inr (.inl (fun _ => 0)))), (q2, .inl (y2, 40, .inr (.inl (fun _ => 0)))), (q3, .inl (y3, 40, .inl (fun _ => 0))), (q4, .inl (y4, 40, .inl (fun _ => 0))), (q5, .inl (y5, 40, .inl (fun _ => 0))), (q6, .inl (y6, 40, .inl (fun _ => 0)))] sz)) 0 0 (va_A [(h0, .inr (15, fs)), (q1, .inl (y1, 40, .inr (.inl (fun _ => 0)))), (q2, .inl (y2, 40, .inr (.inl (fun _ => 0)))), (q3, .inl (y3, 40, .inl (fun _ => 0))), (q4, .inl (y4, 40, .inl (fun _ => 0))), (q5, .inl (y5, 40, .inl (fun _ => 0))), (q6, .inl (y6, 40, .inl (fun _ => 0)))] sz) := by
  refine Met.ofW (cc := cX15_cubicOf) (maxL := 7) (ret := (some .int)) (by decide) rfl ?_
  intro p e s m args below meth c s₁ B hml hv
  obtain ⟨rfl, hsz, hP, hK, hD0⟩ := hv
  have hx := B.exec
  have hb := B.bytes
  have hr := B.returns
  have hts := atoms_spec (ws := wk_X15_cubicOf) B.pre
  have hu : ∀ w ∈ wU, w.before ([.ref h0, .long a, .long b, .int 0] : List Value).toArray s = true := fun w h => hts w (List.mem_cons_of_mem _ h)
  have hown : s.vm.findClass RX15 = some m.cls := findClass_of_methodNamed B.named
  have hlocks := B.notSynchronized
  subst hsz
  have hD := hD0.self (sz := s.heap.size)
  generalize hAe : va_A [(h0, .inr (15, fs)), (q1, .inl (y1, 40, .inr (.inl (fun _ => 0)))), (q2, .inl (y2, 40, .inr (.inl (fun _ => 0)))), (q3, .inl (y3, 40, .inl (fun _ => 0))), (q4, .inl (y4, 40, .inl (fun _ => 0))), (q5, .inl (y5, 40, .inl (fun _ => 0))), (q6, .inl (y6, 40, .inl (fun _ => 0)))] s.heap.size = A at hD ⊢
  have hA : ∀ q : Nat, s.heap.size ≤ q → A q := fun q h => by rw [← hAe]; exact Or.inr h
  have hS : va_S A s.heap s.heap [] := va_S.rf
  have hl := lv_entry ([.ref h0, .long a, .long b, .int 0]) (n := 7) (Nat.le_of_ble_eq_true rfl)
  rw [lg_entry_eq]
  generalize (lg_sl ([.ref h0, .long a, .long b, .int 0]) ++ List.replicate (7 - (lg_sl ([.ref h0, .long a, .long b, .int 0])).length) Slot.unset).toArray = ls at hl ⊢
  have hl : lv_has ls 7 [(0, .ref h0), (1, .long a), (3, .long b), (5, .int 0)] := hl
  refine lv_iconst (v := 0) hx hb dX15_cubicOf_0 (by decide) ?_
  refine lv_istore (lv' := [(6, .int 0), (0, .ref h0), (1, .long a), (3, .long b), (5, .int 0)]) hx hb dX15_cubicOf_1 hl (by decide) rfl (fun ls hl => ?_)
  refine lv_iload hx hb dX15_cubicOf_3 (lv_at hl 0 rfl) ?_
  refine lv_aload_n hx hb dX15_cubicOf_5 rfl (lv_at hl 1 rfl) ?_
  refine va_get (D := (dC, dI)) (ci := 15) (v := .int 0) (C := RX15) (T := TX15) (N := 74) hx hb hu iX15 hown hK hP 0 rfl rfl 12 (by decide) (hu _ u231) (fun _ h9 => h9) hm.2.1 dX15_cubicOf_6 ?_
  refine lv_icmp_ge (tgt := 57) hx hb dX15_cubicOf_9 (by decide) (fun _ => ?_) (fun h9 => absurd (by decide) h9)
  refine lv_aload_n hx hb dX15_cubicOf_57 rfl (lv_at hl 1 rfl) ?_
  refine va_get (D := (dC, dI)) (ci := 15) (v := .int 0) (C := RX15) (T := TX15) (N := 74) hx hb hu iX15 hown hK hP 0 rfl rfl 12 (by decide) (hu _ u231) (fun _ h9 => h9) hm.2.1 dX15_cubicOf_58 ?_
  refine lv_bipush (v := 40) hx hb dX15_cubicOf_61 (by decide) ?_
  refine lv_icmp_ne (tgt := 68) hx hb dX15_cubicOf_63 (by decide) (fun _ => ?_) (fun h9 => absurd h9 (by decide))
  refine lv_aload_n hx hb dX15_cubicOf_68 rfl (lv_at hl 1 rfl) ?_
  refine va_get (D := (dC, dI)) (ci := 15) (v := .ref q1) (C := RX15) (T := TX15) (N := 74) hx hb hu iX15 hown hK hP 0 rfl rfl 8 (by decide) (hu _ u169) (fun _ h9 => h9) hm.2.2.2.2.2.2.1 dX15_cubicOf_69 ?_
  refine lv_aload_n hx hb dX15_cubicOf_72 rfl (lv_at hl 1 rfl) ?_
  refine va_get (D := (dC, dI)) (ci := 15) (v := .int 0) (C := RX15) (T := TX15) (N := 74) hx hb hu iX15 hown hK hP 0 rfl rfl 12 (by decide) (hu _ u231) (fun _ h9 => h9) hm.2.1 dX15_cubicOf_73 ?_
  refine lv_lload_n hx hb dX15_cubicOf_76 rfl (lv_at hl 2 rfl) ?_
  refine va_last hx hb hK hP hD hS 1 0 rfl rfl (by unfold vp_in; decide) dX15_cubicOf_77 (fun H locs hP hD hS => ?_)
  have hP : va_P (dC, dI) clx [(h0, .inr (15, fs)), (q2, .inl (y2, 40, .inr (.inl (fun _ => 0)))), (q3, .inl (y3, 40, .inl (fun _ => 0))), (q4, .inl (y4, 40, .inl (fun _ => 0))), (q5, .inl (y5, 40, .inl (fun _ => 0))), (q6, .inl (y6, 40, .inl (fun _ => 0)))] H := hP.sub [0, 2, 3, 4, 5, 6] rfl
  have hD : va_D A [(h0, .inr (15, fs)), (q2, .inl (y2, 40, .inr (.inl (fun _ => 0)))), (q3, .inl (y3, 40, .inl (fun _ => 0))), (q4, .inl (y4, 40, .inl (fun _ => 0))), (q5, .inl (y5, 40, .inl (fun _ => 0))), (q6, .inl (y6, 40, .inl (fun _ => 0)))] := hD.sub [0, 2, 3, 4, 5, 6] (by decide) rfl
  refine lv_aload_n hx hb dX15_cubicOf_78 rfl (lv_at hl 1 rfl) ?_
  refine va_get (D := (dC, dI)) (ci := 15) (v := .ref q2) (C := RX15) (T := TX15) (N := 74) hx hb hu iX15 hown hK hP 0 rfl rfl 9 (by decide) (hu _ u170) (fun _ h9 => h9) hm.2.2.2.2.2.2.2.1 dX15_cubicOf_79 ?_
  refine lv_aload_n hx hb dX15_cubicOf_82 rfl (lv_at hl 1 rfl) ?_
  refine va_get (D := (dC, dI)) (ci := 15) (v := .int 0) (C := RX15) (T := TX15) (N := 74) hx hb hu iX15 hown hK hP 0 rfl rfl 12 (by decide) (hu _ u231) (fun _ h9 => h9) hm.2.1 dX15_cubicOf_83 ?_
  refine lv_lload_n hx hb dX15_cubicOf_86 rfl (lv_at hl 3 rfl) ?_
  refine va_last hx hb hK hP hD hS 1 1 rfl rfl (by unfold vp_in; decide) dX15_cubicOf_87 (fun H locs hP hD hS => ?_)
  have hP : va_P (dC, dI) clx [(h0, .inr (15, fs)), (q3, .inl (y3, 40, .inl (fun _ => 0))), (q4, .inl (y4, 40, .inl (fun _ => 0))), (q5, .inl (y5, 40, .inl (fun _ => 0))), (q6, .inl (y6, 40, .inl (fun _ => 0)))] H := hP.sub [0, 2, 3, 4, 5] rfl
  have hD : va_D A [(h0, .inr (15, fs)), (q3, .inl (y3, 40, .inl (fun _ => 0))), (q4, .inl (y4, 40, .inl (fun _ => 0))), (q5, .inl (y5, 40, .inl (fun _ => 0))), (q6, .inl (y6, 40, .inl (fun _ => 0)))] := hD.sub [0, 2, 3, 4, 5] (by decide) rfl
  refine lv_aload_n hx hb dX15_cubicOf_88 rfl (lv_at hl 1 rfl) ?_
  refine va_get (D := (dC, dI)) (ci := 15) (v := .ref q3) (C := RX15) (T := TX15) (N := 74) hx hb hu iX15 hown hK hP 0 rfl rfl 10 (by decide) (hu _ u171) (fun _ h9 => h9) hm.2.2.2.2.2.2.2.2.1 dX15_cubicOf_89 ?_
  refine lv_aload_n hx hb dX15_cubicOf_92 rfl (lv_at hl 1 rfl) ?_
  refine va_get (D := (dC, dI)) (ci := 15) (v := .int 0) (C := RX15) (T := TX15) (N := 74) hx hb hu iX15 hown hK hP 0 rfl rfl 12 (by decide) (hu _ u231) (fun _ h9 => h9) hm.2.1 dX15_cubicOf_93 ?_
  refine lv_iload hx hb dX15_cubicOf_96 (lv_at hl 4 rfl) ?_
  refine va_iast hx hb hK hP hD hS 1 2 rfl rfl (by unfold vp_in; decide) dX15_cubicOf_98 (fun H locs hP hD hS => ?_)
  have hP : va_P (dC, dI) clx [(h0, .inr (15, fs)), (q4, .inl (y4, 40, .inl (fun _ => 0))), (q5, .inl (y5, 40, .inl (fun _ => 0))), (q6, .inl (y6, 40, .inl (fun _ => 0)))] H := hP.sub [0, 2, 3, 4] rfl
  have hD : va_D A [(h0, .inr (15, fs)), (q4, .inl (y4, 40, .inl (fun _ => 0))), (q5, .inl (y5, 40, .inl (fun _ => 0))), (q6, .inl (y6, 40, .inl (fun _ => 0)))] := hD.sub [0, 2, 3, 4] (by decide) rfl
  refine lv_aload_n hx hb dX15_cubicOf_99 rfl (lv_at hl 1 rfl) ?_
  refine va_get (D := (dC, dI)) (ci := 15) (v := .ref q4) (C := RX15) (T := TX15) (N := 74) hx hb hu iX15 hown hK hP 0 rfl rfl 11 (by decide) (hu _ u172) (fun _ h9 => h9) hm.2.2.2.2.2.2.2.2.2.1 dX15_cubicOf_100 ?_
  refine lv_aload_n hx hb dX15_cubicOf_103 rfl (lv_at hl 1 rfl) ?_
  refine va_get (D := (dC, dI)) (ci := 15) (v := .int 0) (C := RX15) (T := TX15) (N := 74) hx hb hu iX15 hown hK hP 0 rfl rfl 12 (by decide) (hu _ u231) (fun _ h9 => h9) hm.2.1 dX15_cubicOf_104 ?_
  refine lv_iconst (v := (-1)) hx hb dX15_cubicOf_107 (by decide) ?_
  refine va_iast hx hb hK hP hD hS 1 3 rfl rfl (by unfold vp_in; decide) dX15_cubicOf_108 (fun H locs hP hD hS => ?_)
  have hP : va_P (dC, dI) clx [(h0, .inr (15, fs)), (q5, .inl (y5, 40, .inl (fun _ => 0))), (q6, .inl (y6, 40, .inl (fun _ => 0)))] H := hP.sub [0, 2, 3] rfl
  have hD : va_D A [(h0, .inr (15, fs)), (q5, .inl (y5, 40, .inl (fun _ => 0))), (q6, .inl (y6, 40, .inl (fun _ => 0)))] := hD.sub [0, 2, 3] (by decide) rfl
  refine lv_aload_n hx hb dX15_cubicOf_109 rfl (lv_at hl 1 rfl) ?_
  refine va_get (D := (dC, dI)) (ci := 15) (v := .ref q5) (C := RX15) (T := TX15) (N := 74) hx hb hu iX15 hown hK hP 0 rfl rfl 35 (by decide) (hu _ u199) (fun _ h9 => h9) hm.2.2.2.2.2.2.2.2.2.2.1 dX15_cubicOf_110 ?_
  refine lv_aload_n hx hb dX15_cubicOf_113 rfl (lv_at hl 1 rfl) ?_
  refine va_get (D := (dC, dI)) (ci := 15) (v := .int 0) (C := RX15) (T := TX15) (N := 74) hx hb hu iX15 hown hK hP 0 rfl rfl 12 (by decide) (hu _ u231) (fun _ h9 => h9) hm.2.1 dX15_cubicOf_114 ?_
  refine lv_iconst (v := 0) hx hb dX15_cubicOf_117 (by decide) ?_
  refine va_zast hx hb hK hP hD hS 1 4 rfl rfl (by unfold vp_in; decide) dX15_cubicOf_118 (fun H locs hP hD hS => ?_)
  have hP : va_P (dC, dI) clx [(h0, .inr (15, fs)), (q6, .inl (y6, 40, .inl (fun _ => 0)))] H := hP.sub [0, 2] rfl
  have hD : va_D A [(h0, .inr (15, fs)), (q6, .inl (y6, 40, .inl (fun _ => 0)))] := hD.sub [0, 2] (by decide) rfl
  refine lv_aload_n hx hb dX15_cubicOf_119 rfl (lv_at hl 1 rfl) ?_
  refine va_get (D := (dC, dI)) (ci := 15) (v := .ref q6) (C := RX15) (T := TX15) (N := 74) hx hb hu iX15 hown hK hP 0 rfl rfl 47 (by decide) (hu _ u210) (fun _ h9 => h9) hm.2.2.2.2.2.2.2.2.2.2.2.1 dX15_cubicOf_120 ?_
  refine lv_aload_n hx hb dX15_cubicOf_123 rfl (lv_at hl 1 rfl) ?_
  refine va_get (D := (dC, dI)) (ci := 15) (v := .int 0) (C := RX15) (T := TX15) (N := 74) hx hb hu iX15 hown hK hP 0 rfl rfl 12 (by decide) (hu _ u231) (fun _ h9 => h9) hm.2.1 dX15_cubicOf_124 ?_
  refine lv_iconst (v := 0) hx hb dX15_cubicOf_127 (by decide) ?_
  refine va_zast hx hb hK hP hD hS 1 5 rfl rfl (by unfold vp_in; decide) dX15_cubicOf_128 (fun H locs hP hD hS => ?_)
  have hP : va_P (dC, dI) clx [(h0, .inr (15, fs))] H := hP.sub [0] rfl
  have hD : va_D A [(h0, .inr (15, fs))] := hD.sub [0] (by decide) rfl
  refine lv_aload_n hx hb dX15_cubicOf_129 rfl (lv_at hl 1 rfl) ?_
  refine lv_dup hx hb dX15_cubicOf_130 rfl ?_
  refine va_get (D := (dC, dI)) (ci := 15) (v := .int 0) (C := RX15) (T := TX15) (N := 74) hx hb hu iX15 hown hK hP 0 rfl rfl 12 (by decide) (hu _ u231) (fun _ h9 => h9) hm.2.1 dX15_cubicOf_131 ?_
  refine lv_iconst (v := 1) hx hb dX15_cubicOf_134 (by decide) ?_
  refine lv_iadd hx hb dX15_cubicOf_135 ?_
  refine va_put (D := (dC, dI)) (ci := 15) (v := .int (0 + 1)) (ty := .int) (C := RX15) (T := TX15) (N := 74) hx hb hu iX15 tyX15 tyX15_ok nmX15 hown hK hP hD hS 0 rfl rfl 12 (by decide) (hu _ u231) (fun _ h9 => h9) rfl (by decide +kernel) rfl rfl (by rw [hm.2.2.2.2.2.2.2.2.2.2.2.2]; decide) dX15_cubicOf_136 (fun H locs hP hD hS => ?_)
  have hP : va_P (dC, dI) clx [(h0, .inr (15, (fs.set 12 (.int (0 + 1)))))] H := hP
  have hD : va_D A [(h0, .inr (15, (fs.set 12 (.int (0 + 1)))))] := hD
  refine lv_aload_n hx hb dX15_cubicOf_139 rfl (lv_at hl 1 rfl) ?_
  refine va_get (D := (dC, dI)) (ci := 15) (v := .int (0 + 1)) (C := RX15) (T := TX15) (N := 74) hx hb hu iX15 hown hK hP 0 rfl rfl 12 (by decide) (hu _ u231) (fun _ h9 => h9) (List.getElem?_set_self (by rw [hm.2.2.2.2.2.2.2.2.2.2.2.2]; decide)) dX15_cubicOf_140 ?_
  refine lv_iconst (v := 1) hx hb dX15_cubicOf_143 (by decide) ?_
  refine lv_isub hx hb dX15_cubicOf_144 ?_
  exact W.iret hx hb hr (fun t ht hW => ⟨⟨_, (), rfl, by decide, by show va_P _ _ _ t.heap; rw [ht]; exact hP⟩, hS.F ht⟩) hS.2.2 dX15_cubicOf_145
