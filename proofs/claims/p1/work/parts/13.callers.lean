theorem dL_about_0 : decode cL_about 0 = .ok (.aload_n 3, 1) := by decide +kernel
theorem dL_about_1 : decode cL_about 1 = .ok (.iconst 0, 1) := by decide +kernel
theorem dL_about_2 : decode cL_about 2 = .ok (.aload_n 0, 1) := by decide +kernel
theorem dL_about_3 : decode cL_about 3 = .ok (.iload_n 1, 1) := by decide +kernel
theorem dL_about_4 : decode cL_about 4 = .ok (.iload_n 2, 1) := by decide +kernel
theorem dL_about_5 : decode cL_about 5 = .ok (.invokevirtual 26, 3) := by decide +kernel
theorem dL_about_12 : decode cL_about 12 = .ok (.astore 4, 2) := by decide +kernel
theorem dL_about_14 : decode cL_about 14 = .ok (.iconst 1, 1) := by decide +kernel
theorem dL_about_15 : decode cL_about 15 = .ok (.ireturn, 1) := by decide +kernel
theorem dL_add_0 : decode cL_add 0 = .ok (.aload_n 3, 1) := by decide +kernel
theorem dL_add_1 : decode cL_add 1 = .ok (.iconst 0, 1) := by decide +kernel
theorem dL_add_2 : decode cL_add 2 = .ok (.aload_n 0, 1) := by decide +kernel
theorem dL_add_3 : decode cL_add 3 = .ok (.iload_n 1, 1) := by decide +kernel
theorem dL_add_4 : decode cL_add 4 = .ok (.iload_n 2, 1) := by decide +kernel
theorem dL_add_5 : decode cL_add 5 = .ok (.invokevirtual 37, 3) := by decide +kernel
theorem dL_add_13 : decode cL_add 13 = .ok (.astore 4, 2) := by decide +kernel
theorem dL_add_15 : decode cL_add 15 = .ok (.iconst 1, 1) := by decide +kernel
theorem dL_add_16 : decode cL_add 16 = .ok (.ireturn, 1) := by decide +kernel
theorem dL_back_0 : decode cL_back 0 = .ok (.aload_n 2, 1) := by decide +kernel
theorem dL_back_1 : decode cL_back 1 = .ok (.iconst 0, 1) := by decide +kernel
theorem dL_back_2 : decode cL_back 2 = .ok (.aload_n 0, 1) := by decide +kernel
theorem dL_back_3 : decode cL_back 3 = .ok (.iload_n 1, 1) := by decide +kernel
theorem dL_back_4 : decode cL_back 4 = .ok (.invokevirtual 55, 3) := by decide +kernel
theorem dL_back_12 : decode cL_back 12 = .ok (.astore_n 3, 1) := by decide +kernel
theorem dL_back_13 : decode cL_back 13 = .ok (.iconst 1, 1) := by decide +kernel
theorem dL_back_14 : decode cL_back 14 = .ok (.ireturn, 1) := by decide +kernel
theorem dL_backAt_0 : decode cL_backAt 0 = .ok (.aload_n 3, 1) := by decide +kernel
theorem dL_backAt_1 : decode cL_backAt 1 = .ok (.iconst 0, 1) := by decide +kernel
theorem dL_backAt_2 : decode cL_backAt 2 = .ok (.aload_n 0, 1) := by decide +kernel
theorem dL_backAt_3 : decode cL_backAt 3 = .ok (.iload_n 1, 1) := by decide +kernel
theorem dL_backAt_4 : decode cL_backAt 4 = .ok (.iload_n 2, 1) := by decide +kernel
theorem dL_backAt_5 : decode cL_backAt 5 = .ok (.invokevirtual 58, 3) := by decide +kernel
theorem dL_backAt_13 : decode cL_backAt 13 = .ok (.astore 4, 2) := by decide +kernel
theorem dL_backAt_15 : decode cL_backAt 15 = .ok (.iconst 1, 1) := by decide +kernel
theorem dL_backAt_16 : decode cL_backAt 16 = .ok (.ireturn, 1) := by decide +kernel
theorem dL_count_0 : decode cL_count 0 = .ok (.aload_n 2, 1) := by decide +kernel
theorem dL_count_1 : decode cL_count 1 = .ok (.iconst 0, 1) := by decide +kernel
theorem dL_count_2 : decode cL_count 2 = .ok (.aload_n 0, 1) := by decide +kernel
theorem dL_count_3 : decode cL_count 3 = .ok (.iload_n 1, 1) := by decide +kernel
theorem dL_count_4 : decode cL_count 4 = .ok (.invokevirtual 67, 3) := by decide +kernel
theorem dL_count_12 : decode cL_count 12 = .ok (.astore_n 3, 1) := by decide +kernel
theorem dL_count_13 : decode cL_count 13 = .ok (.iconst 1, 1) := by decide +kernel
theorem dL_count_14 : decode cL_count 14 = .ok (.ireturn, 1) := by decide +kernel
theorem dL_far_0 : decode cL_far 0 = .ok (.aload_n 2, 1) := by decide +kernel
theorem dL_far_1 : decode cL_far 1 = .ok (.iconst 0, 1) := by decide +kernel
theorem dL_far_2 : decode cL_far 2 = .ok (.aload_n 0, 1) := by decide +kernel
theorem dL_far_3 : decode cL_far 3 = .ok (.iload_n 1, 1) := by decide +kernel
theorem dL_far_4 : decode cL_far 4 = .ok (.invokevirtual 30, 3) := by decide +kernel
theorem dL_far_12 : decode cL_far 12 = .ok (.astore_n 3, 1) := by decide +kernel
theorem dL_far_13 : decode cL_far 13 = .ok (.iconst 1, 1) := by decide +kernel
theorem dL_far_14 : decode cL_far 14 = .ok (.ireturn, 1) := by decide +kernel
theorem dL_found_0 : decode cL_found 0 = .ok (.aload_n 3, 1) := by decide +kernel
theorem dL_found_1 : decode cL_found 1 = .ok (.iconst 0, 1) := by decide +kernel
theorem dL_found_2 : decode cL_found 2 = .ok (.aload_n 0, 1) := by decide +kernel
theorem dL_found_3 : decode cL_found 3 = .ok (.iload_n 1, 1) := by decide +kernel
theorem dL_found_4 : decode cL_found 4 = .ok (.iload_n 2, 1) := by decide +kernel
theorem dL_found_5 : decode cL_found 5 = .ok (.invokevirtual 64, 3) := by decide +kernel
theorem dL_found_12 : decode cL_found 12 = .ok (.astore 4, 2) := by decide +kernel
theorem dL_found_14 : decode cL_found 14 = .ok (.iconst 1, 1) := by decide +kernel
theorem dL_found_15 : decode cL_found 15 = .ok (.ireturn, 1) := by decide +kernel
theorem dL_group_0 : decode cL_group 0 = .ok (.aload_n 3, 1) := by decide +kernel
theorem dL_group_1 : decode cL_group 1 = .ok (.iconst 0, 1) := by decide +kernel
theorem dL_group_2 : decode cL_group 2 = .ok (.aload_n 0, 1) := by decide +kernel
theorem dL_group_3 : decode cL_group 3 = .ok (.iload_n 1, 1) := by decide +kernel
theorem dL_group_4 : decode cL_group 4 = .ok (.iload_n 2, 1) := by decide +kernel
theorem dL_group_5 : decode cL_group 5 = .ok (.invokevirtual 76, 3) := by decide +kernel
theorem dL_group_13 : decode cL_group 13 = .ok (.astore 4, 2) := by decide +kernel
theorem dL_group_15 : decode cL_group 15 = .ok (.iconst 1, 1) := by decide +kernel
theorem dL_group_16 : decode cL_group 16 = .ok (.ireturn, 1) := by decide +kernel
theorem dL_led_0 : decode cL_led 0 = .ok (.aload_n 2, 1) := by decide +kernel
theorem dL_led_1 : decode cL_led 1 = .ok (.iconst 0, 1) := by decide +kernel
theorem dL_led_2 : decode cL_led 2 = .ok (.aload_n 0, 1) := by decide +kernel
theorem dL_led_3 : decode cL_led 3 = .ok (.iload_n 1, 1) := by decide +kernel
theorem dL_led_4 : decode cL_led 4 = .ok (.invokevirtual 85, 3) := by decide +kernel
theorem dL_led_12 : decode cL_led 12 = .ok (.astore_n 3, 1) := by decide +kernel
theorem dL_led_13 : decode cL_led 13 = .ok (.iconst 1, 1) := by decide +kernel
theorem dL_led_14 : decode cL_led 14 = .ok (.ireturn, 1) := by decide +kernel
theorem dL_list_0 : decode cL_list 0 = .ok (.aload_n 3, 1) := by decide +kernel
theorem dL_list_1 : decode cL_list 1 = .ok (.iconst 0, 1) := by decide +kernel
theorem dL_list_2 : decode cL_list 2 = .ok (.aload_n 0, 1) := by decide +kernel
theorem dL_list_3 : decode cL_list 3 = .ok (.iload_n 1, 1) := by decide +kernel
theorem dL_list_4 : decode cL_list 4 = .ok (.iload_n 2, 1) := by decide +kernel
theorem dL_list_5 : decode cL_list 5 = .ok (.invokevirtual 73, 3) := by decide +kernel
theorem dL_list_13 : decode cL_list 13 = .ok (.astore 4, 2) := by decide +kernel
theorem dL_list_15 : decode cL_list 15 = .ok (.iconst 1, 1) := by decide +kernel
theorem dL_list_16 : decode cL_list 16 = .ok (.ireturn, 1) := by decide +kernel
theorem dL_mirror_0 : decode cL_mirror 0 = .ok (.aload_n 2, 1) := by decide +kernel
theorem dL_mirror_1 : decode cL_mirror 1 = .ok (.iconst 0, 1) := by decide +kernel
theorem dL_mirror_2 : decode cL_mirror 2 = .ok (.aload_n 0, 1) := by decide +kernel
theorem dL_mirror_3 : decode cL_mirror 3 = .ok (.iload_n 1, 1) := by decide +kernel
theorem dL_mirror_4 : decode cL_mirror 4 = .ok (.invokevirtual 40, 3) := by decide +kernel
theorem dL_mirror_12 : decode cL_mirror 12 = .ok (.astore_n 3, 1) := by decide +kernel
theorem dL_mirror_13 : decode cL_mirror 13 = .ok (.iconst 1, 1) := by decide +kernel
theorem dL_mirror_14 : decode cL_mirror 14 = .ok (.ireturn, 1) := by decide +kernel
theorem dL_order_0 : decode cL_order 0 = .ok (.aload_n 2, 1) := by decide +kernel
theorem dL_order_1 : decode cL_order 1 = .ok (.iconst 0, 1) := by decide +kernel
theorem dL_order_2 : decode cL_order 2 = .ok (.aload_n 0, 1) := by decide +kernel
theorem dL_order_3 : decode cL_order 3 = .ok (.iload_n 1, 1) := by decide +kernel
theorem dL_order_4 : decode cL_order 4 = .ok (.invokevirtual 46, 3) := by decide +kernel
theorem dL_order_12 : decode cL_order 12 = .ok (.astore_n 3, 1) := by decide +kernel
theorem dL_order_13 : decode cL_order 13 = .ok (.iconst 1, 1) := by decide +kernel
theorem dL_order_14 : decode cL_order 14 = .ok (.ireturn, 1) := by decide +kernel
theorem dL_over_0 : decode cL_over 0 = .ok (.aload_n 3, 1) := by decide +kernel
theorem dL_over_1 : decode cL_over 1 = .ok (.iconst 0, 1) := by decide +kernel
theorem dL_over_2 : decode cL_over 2 = .ok (.aload_n 0, 1) := by decide +kernel
theorem dL_over_3 : decode cL_over 3 = .ok (.iload_n 1, 1) := by decide +kernel
theorem dL_over_4 : decode cL_over 4 = .ok (.iload_n 2, 1) := by decide +kernel
theorem dL_over_5 : decode cL_over 5 = .ok (.invokevirtual 70, 3) := by decide +kernel
theorem dL_over_12 : decode cL_over 12 = .ok (.astore 4, 2) := by decide +kernel
theorem dL_over_14 : decode cL_over 14 = .ok (.iconst 1, 1) := by decide +kernel
theorem dL_over_15 : decode cL_over 15 = .ok (.ireturn, 1) := by decide +kernel
theorem dL_pair_0 : decode cL_pair 0 = .ok (.aload 4, 2) := by decide +kernel
theorem dL_pair_2 : decode cL_pair 2 = .ok (.iconst 0, 1) := by decide +kernel
theorem dL_pair_3 : decode cL_pair 3 = .ok (.aload_n 0, 1) := by decide +kernel
theorem dL_pair_4 : decode cL_pair 4 = .ok (.iload_n 1, 1) := by decide +kernel
theorem dL_pair_5 : decode cL_pair 5 = .ok (.iload_n 2, 1) := by decide +kernel
theorem dL_pair_6 : decode cL_pair 6 = .ok (.iload_n 3, 1) := by decide +kernel
theorem dL_pair_7 : decode cL_pair 7 = .ok (.invokevirtual 79, 3) := by decide +kernel
theorem dL_pair_15 : decode cL_pair 15 = .ok (.astore 5, 2) := by decide +kernel
theorem dL_pair_17 : decode cL_pair 17 = .ok (.iconst 1, 1) := by decide +kernel
theorem dL_pair_18 : decode cL_pair 18 = .ok (.ireturn, 1) := by decide +kernel
theorem dL_point_0 : decode cL_point 0 = .ok (.aload 4, 2) := by decide +kernel
theorem dL_point_2 : decode cL_point 2 = .ok (.iconst 0, 1) := by decide +kernel
theorem dL_point_3 : decode cL_point 3 = .ok (.aload_n 0, 1) := by decide +kernel
theorem dL_point_4 : decode cL_point 4 = .ok (.iload_n 1, 1) := by decide +kernel
theorem dL_point_5 : decode cL_point 5 = .ok (.iload_n 2, 1) := by decide +kernel
theorem dL_point_6 : decode cL_point 6 = .ok (.iload_n 3, 1) := by decide +kernel
theorem dL_point_7 : decode cL_point 7 = .ok (.invokevirtual 33, 3) := by decide +kernel
theorem dL_point_15 : decode cL_point 15 = .ok (.astore 5, 2) := by decide +kernel
theorem dL_point_17 : decode cL_point 17 = .ok (.iconst 1, 1) := by decide +kernel
theorem dL_point_18 : decode cL_point 18 = .ok (.ireturn, 1) := by decide +kernel
theorem dL_polynomial_0 : decode cL_polynomial 0 = .ok (.aload_n 3, 1) := by decide +kernel
theorem dL_polynomial_1 : decode cL_polynomial 1 = .ok (.iconst 0, 1) := by decide +kernel
theorem dL_polynomial_2 : decode cL_polynomial 2 = .ok (.aload_n 0, 1) := by decide +kernel
theorem dL_polynomial_3 : decode cL_polynomial 3 = .ok (.iload_n 1, 1) := by decide +kernel
theorem dL_polynomial_4 : decode cL_polynomial 4 = .ok (.iload_n 2, 1) := by decide +kernel
theorem dL_polynomial_5 : decode cL_polynomial 5 = .ok (.invokevirtual 82, 3) := by decide +kernel
theorem dL_polynomial_13 : decode cL_polynomial 13 = .ok (.astore 4, 2) := by decide +kernel
theorem dL_polynomial_15 : decode cL_polynomial 15 = .ok (.iconst 1, 1) := by decide +kernel
theorem dL_polynomial_16 : decode cL_polynomial 16 = .ok (.ireturn, 1) := by decide +kernel
theorem dL_print_0 : decode cL_print 0 = .ok (.aload_n 3, 1) := by decide +kernel
theorem dL_print_1 : decode cL_print 1 = .ok (.iconst 0, 1) := by decide +kernel
theorem dL_print_2 : decode cL_print 2 = .ok (.aload_n 0, 1) := by decide +kernel
theorem dL_print_3 : decode cL_print 3 = .ok (.iload_n 1, 1) := by decide +kernel
theorem dL_print_4 : decode cL_print 4 = .ok (.iload_n 2, 1) := by decide +kernel
theorem dL_print_5 : decode cL_print 5 = .ok (.invokevirtual 52, 3) := by decide +kernel
theorem dL_print_13 : decode cL_print 13 = .ok (.astore 4, 2) := by decide +kernel
theorem dL_print_15 : decode cL_print 15 = .ok (.iconst 1, 1) := by decide +kernel
theorem dL_print_16 : decode cL_print 16 = .ok (.ireturn, 1) := by decide +kernel
theorem dL_rest_0 : decode cL_rest 0 = .ok (.aload_n 3, 1) := by decide +kernel
theorem dL_rest_1 : decode cL_rest 1 = .ok (.iconst 0, 1) := by decide +kernel
theorem dL_rest_2 : decode cL_rest 2 = .ok (.aload_n 0, 1) := by decide +kernel
theorem dL_rest_3 : decode cL_rest 3 = .ok (.iload_n 1, 1) := by decide +kernel
theorem dL_rest_4 : decode cL_rest 4 = .ok (.iload_n 2, 1) := by decide +kernel
theorem dL_rest_5 : decode cL_rest 5 = .ok (.invokevirtual 17, 3) := by decide +kernel
theorem dL_rest_13 : decode cL_rest 13 = .ok (.astore 4, 2) := by decide +kernel
theorem dL_rest_15 : decode cL_rest 15 = .ok (.iconst 1, 1) := by decide +kernel
theorem dL_rest_16 : decode cL_rest 16 = .ok (.ireturn, 1) := by decide +kernel
theorem dL_search_0 : decode cL_search 0 = .ok (.aload_n 3, 1) := by decide +kernel
theorem dL_search_1 : decode cL_search 1 = .ok (.iconst 0, 1) := by decide +kernel
theorem dL_search_2 : decode cL_search 2 = .ok (.aload_n 0, 1) := by decide +kernel
theorem dL_search_3 : decode cL_search 3 = .ok (.iload_n 1, 1) := by decide +kernel
theorem dL_search_4 : decode cL_search 4 = .ok (.iload_n 2, 1) := by decide +kernel
theorem dL_search_5 : decode cL_search 5 = .ok (.invokevirtual 61, 3) := by decide +kernel
theorem dL_search_13 : decode cL_search 13 = .ok (.astore 4, 2) := by decide +kernel
theorem dL_search_15 : decode cL_search 15 = .ok (.iconst 1, 1) := by decide +kernel
theorem dL_search_16 : decode cL_search 16 = .ok (.ireturn, 1) := by decide +kernel
theorem dL_through_0 : decode cL_through 0 = .ok (.aload_n 3, 1) := by decide +kernel
theorem dL_through_1 : decode cL_through 1 = .ok (.iconst 0, 1) := by decide +kernel
theorem dL_through_2 : decode cL_through 2 = .ok (.aload_n 0, 1) := by decide +kernel
theorem dL_through_3 : decode cL_through 3 = .ok (.iload_n 1, 1) := by decide +kernel
theorem dL_through_4 : decode cL_through 4 = .ok (.iload_n 2, 1) := by decide +kernel
theorem dL_through_5 : decode cL_through 5 = .ok (.invokevirtual 88, 3) := by decide +kernel
theorem dL_through_13 : decode cL_through 13 = .ok (.astore 4, 2) := by decide +kernel
theorem dL_through_15 : decode cL_through 15 = .ok (.iconst 1, 1) := by decide +kernel
theorem dL_through_16 : decode cL_through 16 = .ok (.ireturn, 1) := by decide +kernel
theorem dL_times_0 : decode cL_times 0 = .ok (.aload_n 3, 1) := by decide +kernel
theorem dL_times_1 : decode cL_times 1 = .ok (.iconst 0, 1) := by decide +kernel
theorem dL_times_2 : decode cL_times 2 = .ok (.aload_n 0, 1) := by decide +kernel
theorem dL_times_3 : decode cL_times 3 = .ok (.iload_n 1, 1) := by decide +kernel
theorem dL_times_4 : decode cL_times 4 = .ok (.iload_n 2, 1) := by decide +kernel
theorem dL_times_5 : decode cL_times 5 = .ok (.invokevirtual 43, 3) := by decide +kernel
theorem dL_times_13 : decode cL_times 13 = .ok (.astore 4, 2) := by decide +kernel
theorem dL_times_15 : decode cL_times 15 = .ok (.iconst 1, 1) := by decide +kernel
theorem dL_times_16 : decode cL_times 16 = .ok (.ireturn, 1) := by decide +kernel
theorem dL_told_0 : decode cL_told 0 = .ok (.aload_n 3, 1) := by decide +kernel
theorem dL_told_1 : decode cL_told 1 = .ok (.iconst 0, 1) := by decide +kernel
theorem dL_told_2 : decode cL_told 2 = .ok (.aload_n 0, 1) := by decide +kernel
theorem dL_told_3 : decode cL_told 3 = .ok (.iload_n 1, 1) := by decide +kernel
theorem dL_told_4 : decode cL_told 4 = .ok (.iload_n 2, 1) := by decide +kernel
theorem dL_told_5 : decode cL_told 5 = .ok (.invokevirtual 49, 3) := by decide +kernel
theorem dL_told_13 : decode cL_told 13 = .ok (.astore 4, 2) := by decide +kernel
theorem dL_told_15 : decode cL_told 15 = .ok (.iconst 1, 1) := by decide +kernel
theorem dL_told_16 : decode cL_told 16 = .ok (.ireturn, 1) := by decide +kernel
theorem dL_turned_0 : decode cL_turned 0 = .ok (.aload_n 2, 1) := by decide +kernel
theorem dL_turned_1 : decode cL_turned 1 = .ok (.iconst 0, 1) := by decide +kernel
theorem dL_turned_2 : decode cL_turned 2 = .ok (.aload_n 0, 1) := by decide +kernel
theorem dL_turned_3 : decode cL_turned 3 = .ok (.iload_n 1, 1) := by decide +kernel
theorem dL_turned_4 : decode cL_turned 4 = .ok (.invokevirtual 22, 3) := by decide +kernel
theorem dL_turned_12 : decode cL_turned 12 = .ok (.astore_n 3, 1) := by decide +kernel
theorem dL_turned_13 : decode cL_turned 13 = .ok (.iconst 1, 1) := by decide +kernel
theorem dL_turned_14 : decode cL_turned 14 = .ok (.ireturn, 1) := by decide +kernel
def wk_L_rest : List Cond := .codeWith yL_rest cL_rest 5 (some .int) [(0, 10, 13, 20), (0, 10, 17, 13), (0, 10, 21, 15)] :: wU
set_option maxHeartbeats 4000000 in
set_option maxRecDepth 100000 in
theorem w_L_rest (l : Launch) (hst : l.stackTraces = false) (dC : Nat → ClassId) (dI : Nat → Nat → Nat) (h0 sz qo : Nat) (fs : List Value) (c0 d0 : Int32) (hf : xF fs) : Met l yL_rest wk_L_rest ({ frames := 10, cells := 1, slots := 6, locals := 199 } : Room) (tQ dC dI [(h0, .inr (11, fs))] sz [.ref h0, .int c0, .int d0, .ref qo]) (va_Qi (S := Unit) (fun r _ => r = 1) (fun _ _ => True) (nw sz)) 1 6 (nw sz) := by
  refine px_ofWH (cc := cL_rest) (maxL := 5) (ret := (some .int)) (hh := [(0, 10, 13, 20), (0, 10, 17, 13), (0, 10, 21, 15)]) (by decide) rfl ?_
  intro p e s m args below meth c s₁ B hml hv
  obtain ⟨rfl, hsz, hP, hK, hev, hdv, hZ⟩ := hv
  have hx := B.exec
  have hb := B.bytes
  have hr := B.returns
  have hts := atoms_spec (ws := wk_L_rest) B.pre
  have hu : ∀ w ∈ wU, w.before ([.ref h0, .int c0, .int d0, .ref qo] : List Value).toArray s = true := fun w h => hts w (List.mem_cons_of_mem _ h)
  have hown : s.vm.findClass RL = some m.cls := findClass_of_methodNamed B.named
  have hlocks := B.notSynchronized
  subst hsz
  have hA : ∀ q : Nat, s.heap.size ≤ q → nw s.heap.size q := fun _ h => h
  have hS : va_S (nw s.heap.size) s.heap s.heap [] := va_S.rf
  have hl := lv_entry ([.ref h0, .int c0, .int d0, .ref qo]) (n := 5) (Nat.le_of_ble_eq_true rfl)
  rw [lg_entry_eq]
  generalize (lg_sl ([.ref h0, .int c0, .int d0, .ref qo]) ++ List.replicate (5 - (lg_sl ([.ref h0, .int c0, .int d0, .ref qo])).length) Slot.unset).toArray = ls at hl ⊢
  have hl : lv_has ls 5 [(0, .ref h0), (1, .int c0), (2, .int d0), (3, .ref qo)] := hl
  have htb := vx_table (x := yL_rest) B (hts (.codeWith yL_rest cL_rest 5 (some .int) [(0, 10, 13, 20), (0, 10, 17, 13), (0, 10, 21, 15)]) List.mem_cons_self)
  refine lv_aload_n hx hb dL_rest_0 rfl (lv_at hl 3 rfl) ?_
  refine lv_iconst (v := 0) hx hb dL_rest_1 (by decide) ?_
  refine lv_aload_n hx hb dL_rest_2 rfl (lv_at hl 0 rfl) ?_
  refine lv_iload_n hx hb dL_rest_3 rfl (lv_at hl 1 rfl) ?_
  refine lv_iload_n hx hb dL_rest_4 rfl (lv_at hl 2 rfl) ?_
  refine px_call (vx_runV (As := [.int c0, .int d0]) (rest := [.int 0, .ref qo]) ⟨hx, hb, hml, hown, hu⟩ (t_X11_rest l hst dC dI h0 _ fs c0 d0 hf) (cwV 2 hu (gV u450 u451 u452 u432 u453) rfl rfl rfl (by decide +kernel) ⟨(Nat.le_of_ble_eq_true rfl), (Nat.le_of_ble_eq_true rfl)⟩) ⟨tQ_blind, va_recv hK hP (ci := 11) (q0 := 0) rfl rfl, tQ_at hP hK hev hdv hZ⟩ rfl rfl hl.1 rfl (lv_room (Nat.le_of_ble_eq_true rfl)) dL_rest_5 ⟨(Nat.le_of_ble_eq_true rfl), (Nat.le_of_ble_eq_true rfl)⟩) rfl hS hA (fun ce q9 H locs hz1 hk1 hS hce hcv hcl => ?_)
  refine px_catch (name := nIOO) (E := nIOO) hown ⟨0, 10, 13, 20⟩ [⟨0, 10, 17, 13⟩, ⟨0, 10, 21, 15⟩] htb rfl (by decide) (hu _ u454) (va_Nw.use rfl hev.2.2.2.1.1) hce hcv hcl ?_
  refine W.widen (k := 1) (n := 6) (Nat.le_of_ble_eq_true rfl) (Nat.le_of_ble_eq_true rfl) ?_
  refine lv_astore (lv' := [(4, .ref q9), (0, .ref h0), (1, .int c0), (2, .int d0), (3, .ref qo)]) hx hb dL_rest_13 hl (by decide) rfl (fun ls hl => ?_)
  refine lv_iconst (v := 1) hx hb dL_rest_15 (by decide) ?_
  exact W.iret (v := 1) hx hb hr (fun t ht hW => ⟨⟨1, (), rfl, rfl, trivial⟩, hS.F ht⟩) hS.2.2 dL_rest_16
def wk_L_turned : List Cond := .codeWith yL_turned cL_turned 4 (some .int) [(0, 9, 12, 20), (0, 9, 15, 13), (0, 9, 18, 15)] :: wU
set_option maxHeartbeats 4000000 in
set_option maxRecDepth 100000 in
theorem w_L_turned (l : Launch) (hst : l.stackTraces = false) (dC : Nat → ClassId) (dI : Nat → Nat → Nat) (h0 sz qo : Nat) (fs : List Value) (c0 : Int32) (hf : xF fs) : Met l yL_turned wk_L_turned ({ frames := 10, cells := 1, slots := 6, locals := 206 } : Room) (tQ dC dI [(h0, .inr (11, fs))] sz [.ref h0, .int c0, .ref qo]) (va_Qi (S := Unit) (fun r _ => r = 1) (fun _ _ => True) (nw sz)) 1 6 (nw sz) := by
  refine px_ofWH (cc := cL_turned) (maxL := 4) (ret := (some .int)) (hh := [(0, 9, 12, 20), (0, 9, 15, 13), (0, 9, 18, 15)]) (by decide) rfl ?_
  intro p e s m args below meth c s₁ B hml hv
  obtain ⟨rfl, hsz, hP, hK, hev, hdv, hZ⟩ := hv
  have hx := B.exec
  have hb := B.bytes
  have hr := B.returns
  have hts := atoms_spec (ws := wk_L_turned) B.pre
  have hu : ∀ w ∈ wU, w.before ([.ref h0, .int c0, .ref qo] : List Value).toArray s = true := fun w h => hts w (List.mem_cons_of_mem _ h)
  have hown : s.vm.findClass RL = some m.cls := findClass_of_methodNamed B.named
  have hlocks := B.notSynchronized
  subst hsz
  have hA : ∀ q : Nat, s.heap.size ≤ q → nw s.heap.size q := fun _ h => h
  have hS : va_S (nw s.heap.size) s.heap s.heap [] := va_S.rf
  have hl := lv_entry ([.ref h0, .int c0, .ref qo]) (n := 4) (Nat.le_of_ble_eq_true rfl)
  rw [lg_entry_eq]
  generalize (lg_sl ([.ref h0, .int c0, .ref qo]) ++ List.replicate (4 - (lg_sl ([.ref h0, .int c0, .ref qo])).length) Slot.unset).toArray = ls at hl ⊢
  have hl : lv_has ls 4 [(0, .ref h0), (1, .int c0), (2, .ref qo)] := hl
  have htb := vx_table (x := yL_turned) B (hts (.codeWith yL_turned cL_turned 4 (some .int) [(0, 9, 12, 20), (0, 9, 15, 13), (0, 9, 18, 15)]) List.mem_cons_self)
  refine lv_aload_n hx hb dL_turned_0 rfl (lv_at hl 2 rfl) ?_
  refine lv_iconst (v := 0) hx hb dL_turned_1 (by decide) ?_
  refine lv_aload_n hx hb dL_turned_2 rfl (lv_at hl 0 rfl) ?_
  refine lv_iload_n hx hb dL_turned_3 rfl (lv_at hl 1 rfl) ?_
  refine px_call (vx_runV (As := [.int c0]) (rest := [.int 0, .ref qo]) ⟨hx, hb, hml, hown, hu⟩ (t_X11_turned l hst dC dI h0 _ fs c0 hf) (cwV 1 hu (gV u455 u456 u457 u432 u458) rfl rfl rfl (by decide +kernel) ⟨(Nat.le_of_ble_eq_true rfl), (Nat.le_of_ble_eq_true rfl)⟩) ⟨tQ_blind, va_recv hK hP (ci := 11) (q0 := 0) rfl rfl, tQ_at hP hK hev hdv hZ⟩ rfl rfl hl.1 rfl (lv_room (Nat.le_of_ble_eq_true rfl)) dL_turned_4 ⟨(Nat.le_of_ble_eq_true rfl), (Nat.le_of_ble_eq_true rfl)⟩) rfl hS hA (fun ce q9 H locs hz1 hk1 hS hce hcv hcl => ?_)
  refine px_catch (name := nIOO) (E := nIOO) hown ⟨0, 9, 12, 20⟩ [⟨0, 9, 15, 13⟩, ⟨0, 9, 18, 15⟩] htb rfl (by decide) (hu _ u454) (va_Nw.use rfl hev.2.2.2.1.1) hce hcv hcl ?_
  refine W.widen (k := 1) (n := 6) (Nat.le_of_ble_eq_true rfl) (Nat.le_of_ble_eq_true rfl) ?_
  refine lv_astore_n (lv' := [(3, .ref q9), (0, .ref h0), (1, .int c0), (2, .ref qo)]) hx hb dL_turned_12 rfl hl (by decide) rfl (fun ls hl => ?_)
  refine lv_iconst (v := 1) hx hb dL_turned_13 (by decide) ?_
  exact W.iret (v := 1) hx hb hr (fun t ht hW => ⟨⟨1, (), rfl, rfl, trivial⟩, hS.F ht⟩) hS.2.2 dL_turned_14
def wk_L_about : List Cond := .codeWith yL_about cL_about 5 (some .int) [(0, 9, 12, 20), (0, 9, 16, 13)] :: wU
set_option maxHeartbeats 4000000 in
set_option maxRecDepth 100000 in
theorem w_L_about (l : Launch) (hst : l.stackTraces = false) (dC : Nat → ClassId) (dI : Nat → Nat → Nat) (h0 sz qo : Nat) (fs : List Value) (c0 d0 : Int32) (hf : xF fs) : Met l yL_about wk_L_about ({ frames := 9, cells := 1, slots := 6, locals := 175 } : Room) (tQ dC dI [(h0, .inr (11, fs))] sz [.ref h0, .int c0, .int d0, .ref qo]) (va_Qi (S := Unit) (fun r _ => r = 1) (fun _ _ => True) (nw sz)) 1 6 (nw sz) := by
  refine px_ofWH (cc := cL_about) (maxL := 5) (ret := (some .int)) (hh := [(0, 9, 12, 20), (0, 9, 16, 13)]) (by decide) rfl ?_
  intro p e s m args below meth c s₁ B hml hv
  obtain ⟨rfl, hsz, hP, hK, hev, hdv, hZ⟩ := hv
  have hx := B.exec
  have hb := B.bytes
  have hr := B.returns
  have hts := atoms_spec (ws := wk_L_about) B.pre
  have hu : ∀ w ∈ wU, w.before ([.ref h0, .int c0, .int d0, .ref qo] : List Value).toArray s = true := fun w h => hts w (List.mem_cons_of_mem _ h)
  have hown : s.vm.findClass RL = some m.cls := findClass_of_methodNamed B.named
  have hlocks := B.notSynchronized
  subst hsz
  have hA : ∀ q : Nat, s.heap.size ≤ q → nw s.heap.size q := fun _ h => h
  have hS : va_S (nw s.heap.size) s.heap s.heap [] := va_S.rf
  have hl := lv_entry ([.ref h0, .int c0, .int d0, .ref qo]) (n := 5) (Nat.le_of_ble_eq_true rfl)
  rw [lg_entry_eq]
  generalize (lg_sl ([.ref h0, .int c0, .int d0, .ref qo]) ++ List.replicate (5 - (lg_sl ([.ref h0, .int c0, .int d0, .ref qo])).length) Slot.unset).toArray = ls at hl ⊢
  have hl : lv_has ls 5 [(0, .ref h0), (1, .int c0), (2, .int d0), (3, .ref qo)] := hl
  have htb := vx_table (x := yL_about) B (hts (.codeWith yL_about cL_about 5 (some .int) [(0, 9, 12, 20), (0, 9, 16, 13)]) List.mem_cons_self)
  refine lv_aload_n hx hb dL_about_0 rfl (lv_at hl 3 rfl) ?_
  refine lv_iconst (v := 0) hx hb dL_about_1 (by decide) ?_
  refine lv_aload_n hx hb dL_about_2 rfl (lv_at hl 0 rfl) ?_
  refine lv_iload_n hx hb dL_about_3 rfl (lv_at hl 1 rfl) ?_
  refine lv_iload_n hx hb dL_about_4 rfl (lv_at hl 2 rfl) ?_
  refine px_call (vx_runV (As := [.int c0, .int d0]) (rest := [.int 0, .ref qo]) ⟨hx, hb, hml, hown, hu⟩ (t_X11_about l hst dC dI h0 _ fs c0 d0 hf) (cwV 2 hu (gV u459 u460 u461 u432 u462) rfl rfl rfl (by decide +kernel) ⟨(Nat.le_of_ble_eq_true rfl), (Nat.le_of_ble_eq_true rfl)⟩) ⟨tQ_blind, va_recv hK hP (ci := 11) (q0 := 0) rfl rfl, tQ_at hP hK hev hdv hZ⟩ rfl rfl hl.1 rfl (lv_room (Nat.le_of_ble_eq_true rfl)) dL_about_5 ⟨(Nat.le_of_ble_eq_true rfl), (Nat.le_of_ble_eq_true rfl)⟩) rfl hS hA (fun ce q9 H locs hz1 hk1 hS hce hcv hcl => ?_)
  refine px_catch (name := nIOO) (E := nIOO) hown ⟨0, 9, 12, 20⟩ [⟨0, 9, 16, 13⟩] htb rfl (by decide) (hu _ u454) (va_Nw.use rfl hev.2.2.2.1.1) hce hcv hcl ?_
  refine W.widen (k := 1) (n := 6) (Nat.le_of_ble_eq_true rfl) (Nat.le_of_ble_eq_true rfl) ?_
  refine lv_astore (lv' := [(4, .ref q9), (0, .ref h0), (1, .int c0), (2, .int d0), (3, .ref qo)]) hx hb dL_about_12 hl (by decide) rfl (fun ls hl => ?_)
  refine lv_iconst (v := 1) hx hb dL_about_14 (by decide) ?_
  exact W.iret (v := 1) hx hb hr (fun t ht hW => ⟨⟨1, (), rfl, rfl, trivial⟩, hS.F ht⟩) hS.2.2 dL_about_15
def wk_L_far : List Cond := .codeWith yL_far cL_far 4 (some .int) [(0, 9, 12, 20), (0, 9, 15, 15)] :: wU
set_option maxHeartbeats 4000000 in
set_option maxRecDepth 100000 in
theorem w_L_far (l : Launch) (hst : l.stackTraces = false) (dC : Nat → ClassId) (dI : Nat → Nat → Nat) (h0 sz qo : Nat) (fs : List Value) (c0 : Int32) (hf : xF fs) : Met l yL_far wk_L_far ({ frames := 9, cells := 1, slots := 6, locals := 174 } : Room) (tQ dC dI [(h0, .inr (11, fs))] sz [.ref h0, .int c0, .ref qo]) (va_Qi (S := Unit) (fun r _ => r = 1) (fun _ _ => True) (nw sz)) 1 6 (nw sz) := by
  refine px_ofWH (cc := cL_far) (maxL := 4) (ret := (some .int)) (hh := [(0, 9, 12, 20), (0, 9, 15, 15)]) (by decide) rfl ?_
  intro p e s m args below meth c s₁ B hml hv
  obtain ⟨rfl, hsz, hP, hK, hev, hdv, hZ⟩ := hv
  have hx := B.exec
  have hb := B.bytes
  have hr := B.returns
  have hts := atoms_spec (ws := wk_L_far) B.pre
  have hu : ∀ w ∈ wU, w.before ([.ref h0, .int c0, .ref qo] : List Value).toArray s = true := fun w h => hts w (List.mem_cons_of_mem _ h)
  have hown : s.vm.findClass RL = some m.cls := findClass_of_methodNamed B.named
  have hlocks := B.notSynchronized
  subst hsz
  have hA : ∀ q : Nat, s.heap.size ≤ q → nw s.heap.size q := fun _ h => h
  have hS : va_S (nw s.heap.size) s.heap s.heap [] := va_S.rf
  have hl := lv_entry ([.ref h0, .int c0, .ref qo]) (n := 4) (Nat.le_of_ble_eq_true rfl)
  rw [lg_entry_eq]
  generalize (lg_sl ([.ref h0, .int c0, .ref qo]) ++ List.replicate (4 - (lg_sl ([.ref h0, .int c0, .ref qo])).length) Slot.unset).toArray = ls at hl ⊢
  have hl : lv_has ls 4 [(0, .ref h0), (1, .int c0), (2, .ref qo)] := hl
  have htb := vx_table (x := yL_far) B (hts (.codeWith yL_far cL_far 4 (some .int) [(0, 9, 12, 20), (0, 9, 15, 15)]) List.mem_cons_self)
  refine lv_aload_n hx hb dL_far_0 rfl (lv_at hl 2 rfl) ?_
  refine lv_iconst (v := 0) hx hb dL_far_1 (by decide) ?_
  refine lv_aload_n hx hb dL_far_2 rfl (lv_at hl 0 rfl) ?_
  refine lv_iload_n hx hb dL_far_3 rfl (lv_at hl 1 rfl) ?_
  refine px_call (vx_runV (As := [.int c0]) (rest := [.int 0, .ref qo]) ⟨hx, hb, hml, hown, hu⟩ (t_X11_far l hst dC dI h0 _ fs c0 hf) (cwV 1 hu (gV u463 u464 u465 u432 u466) rfl rfl rfl (by decide +kernel) ⟨(Nat.le_of_ble_eq_true rfl), (Nat.le_of_ble_eq_true rfl)⟩) ⟨tQ_blind, va_recv hK hP (ci := 11) (q0 := 0) rfl rfl, tQ_at hP hK hev hdv hZ⟩ rfl rfl hl.1 rfl (lv_room (Nat.le_of_ble_eq_true rfl)) dL_far_4 ⟨(Nat.le_of_ble_eq_true rfl), (Nat.le_of_ble_eq_true rfl)⟩) rfl hS hA (fun ce q9 H locs hz1 hk1 hS hce hcv hcl => ?_)
  refine px_catch (name := nIOO) (E := nIOO) hown ⟨0, 9, 12, 20⟩ [⟨0, 9, 15, 15⟩] htb rfl (by decide) (hu _ u454) (va_Nw.use rfl hev.2.2.2.1.1) hce hcv hcl ?_
  refine W.widen (k := 1) (n := 6) (Nat.le_of_ble_eq_true rfl) (Nat.le_of_ble_eq_true rfl) ?_
  refine lv_astore_n (lv' := [(3, .ref q9), (0, .ref h0), (1, .int c0), (2, .ref qo)]) hx hb dL_far_12 rfl hl (by decide) rfl (fun ls hl => ?_)
  refine lv_iconst (v := 1) hx hb dL_far_13 (by decide) ?_
  exact W.iret (v := 1) hx hb hr (fun t ht hW => ⟨⟨1, (), rfl, rfl, trivial⟩, hS.F ht⟩) hS.2.2 dL_far_14
def wk_L_point : List Cond := .codeWith yL_point cL_point 6 (some .int) [(0, 12, 15, 20), (0, 12, 19, 13), (0, 12, 23, 15)] :: wU
set_option maxHeartbeats 4000000 in
set_option maxRecDepth 100000 in
theorem w_L_point (l : Launch) (hst : l.stackTraces = false) (dC : Nat → ClassId) (dI : Nat → Nat → Nat) (h0 sz qo : Nat) (fs : List Value) (c0 d0 e0 : Int32) (hf : xF fs) : Met l yL_point wk_L_point ({ frames := 9, cells := 1, slots := 6, locals := 178 } : Room) (tQ dC dI [(h0, .inr (11, fs))] sz [.ref h0, .int c0, .int d0, .int e0, .ref qo]) (va_Qi (S := Unit) (fun r _ => r = 1) (fun _ _ => True) (nw sz)) 1 6 (nw sz) := by
  refine px_ofWH (cc := cL_point) (maxL := 6) (ret := (some .int)) (hh := [(0, 12, 15, 20), (0, 12, 19, 13), (0, 12, 23, 15)]) (by decide) rfl ?_
  intro p e s m args below meth c s₁ B hml hv
  obtain ⟨rfl, hsz, hP, hK, hev, hdv, hZ⟩ := hv
  have hx := B.exec
  have hb := B.bytes
  have hr := B.returns
  have hts := atoms_spec (ws := wk_L_point) B.pre
  have hu : ∀ w ∈ wU, w.before ([.ref h0, .int c0, .int d0, .int e0, .ref qo] : List Value).toArray s = true := fun w h => hts w (List.mem_cons_of_mem _ h)
  have hown : s.vm.findClass RL = some m.cls := findClass_of_methodNamed B.named
  have hlocks := B.notSynchronized
  subst hsz
  have hA : ∀ q : Nat, s.heap.size ≤ q → nw s.heap.size q := fun _ h => h
  have hS : va_S (nw s.heap.size) s.heap s.heap [] := va_S.rf
  have hl := lv_entry ([.ref h0, .int c0, .int d0, .int e0, .ref qo]) (n := 6) (Nat.le_of_ble_eq_true rfl)
  rw [lg_entry_eq]
  generalize (lg_sl ([.ref h0, .int c0, .int d0, .int e0, .ref qo]) ++ List.replicate (6 - (lg_sl ([.ref h0, .int c0, .int d0, .int e0, .ref qo])).length) Slot.unset).toArray = ls at hl ⊢
  have hl : lv_has ls 6 [(0, .ref h0), (1, .int c0), (2, .int d0), (3, .int e0), (4, .ref qo)] := hl
  have htb := vx_table (x := yL_point) B (hts (.codeWith yL_point cL_point 6 (some .int) [(0, 12, 15, 20), (0, 12, 19, 13), (0, 12, 23, 15)]) List.mem_cons_self)
  refine lv_aload hx hb dL_point_0 (lv_at hl 4 rfl) ?_
  refine lv_iconst (v := 0) hx hb dL_point_2 (by decide) ?_
  refine lv_aload_n hx hb dL_point_3 rfl (lv_at hl 0 rfl) ?_
  refine lv_iload_n hx hb dL_point_4 rfl (lv_at hl 1 rfl) ?_
  refine lv_iload_n hx hb dL_point_5 rfl (lv_at hl 2 rfl) ?_
  refine lv_iload_n hx hb dL_point_6 rfl (lv_at hl 3 rfl) ?_
  refine px_call (vx_runV (As := [.int c0, .int d0, .int e0]) (rest := [.int 0, .ref qo]) ⟨hx, hb, hml, hown, hu⟩ (t_X11_point l hst dC dI h0 _ fs c0 d0 e0 hf) (cwV 3 hu (gV u467 u468 u469 u432 u470) rfl rfl rfl (by decide +kernel) ⟨(Nat.le_of_ble_eq_true rfl), (Nat.le_of_ble_eq_true rfl)⟩) ⟨tQ_blind, va_recv hK hP (ci := 11) (q0 := 0) rfl rfl, tQ_at hP hK hev hdv hZ⟩ rfl rfl hl.1 rfl (lv_room (Nat.le_of_ble_eq_true rfl)) dL_point_7 ⟨(Nat.le_of_ble_eq_true rfl), (Nat.le_of_ble_eq_true rfl)⟩) rfl hS hA (fun ce q9 H locs hz1 hk1 hS hce hcv hcl => ?_)
  refine px_catch (name := nIOO) (E := nIOO) hown ⟨0, 12, 15, 20⟩ [⟨0, 12, 19, 13⟩, ⟨0, 12, 23, 15⟩] htb rfl (by decide) (hu _ u454) (va_Nw.use rfl hev.2.2.2.1.1) hce hcv hcl ?_
  refine W.widen (k := 1) (n := 6) (Nat.le_of_ble_eq_true rfl) (Nat.le_of_ble_eq_true rfl) ?_
  refine lv_astore (lv' := [(5, .ref q9), (0, .ref h0), (1, .int c0), (2, .int d0), (3, .int e0), (4, .ref qo)]) hx hb dL_point_15 hl (by decide) rfl (fun ls hl => ?_)
  refine lv_iconst (v := 1) hx hb dL_point_17 (by decide) ?_
  exact W.iret (v := 1) hx hb hr (fun t ht hW => ⟨⟨1, (), rfl, rfl, trivial⟩, hS.F ht⟩) hS.2.2 dL_point_18
def wk_L_add : List Cond := .codeWith yL_add cL_add 5 (some .int) [(0, 10, 13, 20), (0, 10, 17, 15)] :: wU
set_option maxHeartbeats 4000000 in
set_option maxRecDepth 100000 in
theorem w_L_add (l : Launch) (hst : l.stackTraces = false) (dC : Nat → ClassId) (dI : Nat → Nat → Nat) (h0 sz qo : Nat) (fs : List Value) (c0 d0 : Int32) (hf : xF fs) : Met l yL_add wk_L_add ({ frames := 9, cells := 1, slots := 6, locals := 177 } : Room) (tQ dC dI [(h0, .inr (11, fs))] sz [.ref h0, .int c0, .int d0, .ref qo]) (va_Qi (S := Unit) (fun r _ => r = 1) (fun _ _ => True) (nw sz)) 1 6 (nw sz) := by
  refine px_ofWH (cc := cL_add) (maxL := 5) (ret := (some .int)) (hh := [(0, 10, 13, 20), (0, 10, 17, 15)]) (by decide) rfl ?_
  intro p e s m args below meth c s₁ B hml hv
  obtain ⟨rfl, hsz, hP, hK, hev, hdv, hZ⟩ := hv
  have hx := B.exec
  have hb := B.bytes
  have hr := B.returns
  have hts := atoms_spec (ws := wk_L_add) B.pre
  have hu : ∀ w ∈ wU, w.before ([.ref h0, .int c0, .int d0, .ref qo] : List Value).toArray s = true := fun w h => hts w (List.mem_cons_of_mem _ h)
  have hown : s.vm.findClass RL = some m.cls := findClass_of_methodNamed B.named
  have hlocks := B.notSynchronized
  subst hsz
  have hA : ∀ q : Nat, s.heap.size ≤ q → nw s.heap.size q := fun _ h => h
  have hS : va_S (nw s.heap.size) s.heap s.heap [] := va_S.rf
  have hl := lv_entry ([.ref h0, .int c0, .int d0, .ref qo]) (n := 5) (Nat.le_of_ble_eq_true rfl)
  rw [lg_entry_eq]
  generalize (lg_sl ([.ref h0, .int c0, .int d0, .ref qo]) ++ List.replicate (5 - (lg_sl ([.ref h0, .int c0, .int d0, .ref qo])).length) Slot.unset).toArray = ls at hl ⊢
  have hl : lv_has ls 5 [(0, .ref h0), (1, .int c0), (2, .int d0), (3, .ref qo)] := hl
  have htb := vx_table (x := yL_add) B (hts (.codeWith yL_add cL_add 5 (some .int) [(0, 10, 13, 20), (0, 10, 17, 15)]) List.mem_cons_self)
  refine lv_aload_n hx hb dL_add_0 rfl (lv_at hl 3 rfl) ?_
  refine lv_iconst (v := 0) hx hb dL_add_1 (by decide) ?_
  refine lv_aload_n hx hb dL_add_2 rfl (lv_at hl 0 rfl) ?_
  refine lv_iload_n hx hb dL_add_3 rfl (lv_at hl 1 rfl) ?_
  refine lv_iload_n hx hb dL_add_4 rfl (lv_at hl 2 rfl) ?_
  refine px_call (vx_runV (As := [.int c0, .int d0]) (rest := [.int 0, .ref qo]) ⟨hx, hb, hml, hown, hu⟩ (t_X11_add l hst dC dI h0 _ fs c0 d0 hf) (cwV 2 hu (gV u471 u472 u473 u432 u474) rfl rfl rfl (by decide +kernel) ⟨(Nat.le_of_ble_eq_true rfl), (Nat.le_of_ble_eq_true rfl)⟩) ⟨tQ_blind, va_recv hK hP (ci := 11) (q0 := 0) rfl rfl, tQ_at hP hK hev hdv hZ⟩ rfl rfl hl.1 rfl (lv_room (Nat.le_of_ble_eq_true rfl)) dL_add_5 ⟨(Nat.le_of_ble_eq_true rfl), (Nat.le_of_ble_eq_true rfl)⟩) rfl hS hA (fun ce q9 H locs hz1 hk1 hS hce hcv hcl => ?_)
  refine px_catch (name := nIOO) (E := nIOO) hown ⟨0, 10, 13, 20⟩ [⟨0, 10, 17, 15⟩] htb rfl (by decide) (hu _ u454) (va_Nw.use rfl hev.2.2.2.1.1) hce hcv hcl ?_
  refine W.widen (k := 1) (n := 6) (Nat.le_of_ble_eq_true rfl) (Nat.le_of_ble_eq_true rfl) ?_
  refine lv_astore (lv' := [(4, .ref q9), (0, .ref h0), (1, .int c0), (2, .int d0), (3, .ref qo)]) hx hb dL_add_13 hl (by decide) rfl (fun ls hl => ?_)
  refine lv_iconst (v := 1) hx hb dL_add_15 (by decide) ?_
  exact W.iret (v := 1) hx hb hr (fun t ht hW => ⟨⟨1, (), rfl, rfl, trivial⟩, hS.F ht⟩) hS.2.2 dL_add_16
def wk_L_mirror : List Cond := .codeWith yL_mirror cL_mirror 4 (some .int) [(0, 9, 12, 20), (0, 9, 15, 15)] :: wU
set_option maxHeartbeats 4000000 in
set_option maxRecDepth 100000 in
theorem w_L_mirror (l : Launch) (hst : l.stackTraces = false) (dC : Nat → ClassId) (dI : Nat → Nat → Nat) (h0 sz qo : Nat) (fs : List Value) (c0 : Int32) (hf : xF fs) : Met l yL_mirror wk_L_mirror ({ frames := 9, cells := 1, slots := 6, locals := 175 } : Room) (tQ dC dI [(h0, .inr (11, fs))] sz [.ref h0, .int c0, .ref qo]) (va_Qi (S := Unit) (fun r _ => r = 1) (fun _ _ => True) (nw sz)) 1 6 (nw sz) := by
  refine px_ofWH (cc := cL_mirror) (maxL := 4) (ret := (some .int)) (hh := [(0, 9, 12, 20), (0, 9, 15, 15)]) (by decide) rfl ?_
  intro p e s m args below meth c s₁ B hml hv
  obtain ⟨rfl, hsz, hP, hK, hev, hdv, hZ⟩ := hv
  have hx := B.exec
  have hb := B.bytes
  have hr := B.returns
  have hts := atoms_spec (ws := wk_L_mirror) B.pre
  have hu : ∀ w ∈ wU, w.before ([.ref h0, .int c0, .ref qo] : List Value).toArray s = true := fun w h => hts w (List.mem_cons_of_mem _ h)
  have hown : s.vm.findClass RL = some m.cls := findClass_of_methodNamed B.named
  have hlocks := B.notSynchronized
  subst hsz
  have hA : ∀ q : Nat, s.heap.size ≤ q → nw s.heap.size q := fun _ h => h
  have hS : va_S (nw s.heap.size) s.heap s.heap [] := va_S.rf
  have hl := lv_entry ([.ref h0, .int c0, .ref qo]) (n := 4) (Nat.le_of_ble_eq_true rfl)
  rw [lg_entry_eq]
  generalize (lg_sl ([.ref h0, .int c0, .ref qo]) ++ List.replicate (4 - (lg_sl ([.ref h0, .int c0, .ref qo])).length) Slot.unset).toArray = ls at hl ⊢
  have hl : lv_has ls 4 [(0, .ref h0), (1, .int c0), (2, .ref qo)] := hl
  have htb := vx_table (x := yL_mirror) B (hts (.codeWith yL_mirror cL_mirror 4 (some .int) [(0, 9, 12, 20), (0, 9, 15, 15)]) List.mem_cons_self)
  refine lv_aload_n hx hb dL_mirror_0 rfl (lv_at hl 2 rfl) ?_
  refine lv_iconst (v := 0) hx hb dL_mirror_1 (by decide) ?_
  refine lv_aload_n hx hb dL_mirror_2 rfl (lv_at hl 0 rfl) ?_
  refine lv_iload_n hx hb dL_mirror_3 rfl (lv_at hl 1 rfl) ?_
  refine px_call (vx_runV (As := [.int c0]) (rest := [.int 0, .ref qo]) ⟨hx, hb, hml, hown, hu⟩ (t_X11_mirror l hst dC dI h0 _ fs c0 hf) (cwV 1 hu (gV u475 u476 u477 u432 u478) rfl rfl rfl (by decide +kernel) ⟨(Nat.le_of_ble_eq_true rfl), (Nat.le_of_ble_eq_true rfl)⟩) ⟨tQ_blind, va_recv hK hP (ci := 11) (q0 := 0) rfl rfl, tQ_at hP hK hev hdv hZ⟩ rfl rfl hl.1 rfl (lv_room (Nat.le_of_ble_eq_true rfl)) dL_mirror_4 ⟨(Nat.le_of_ble_eq_true rfl), (Nat.le_of_ble_eq_true rfl)⟩) rfl hS hA (fun ce q9 H locs hz1 hk1 hS hce hcv hcl => ?_)
  refine px_catch (name := nIOO) (E := nIOO) hown ⟨0, 9, 12, 20⟩ [⟨0, 9, 15, 15⟩] htb rfl (by decide) (hu _ u454) (va_Nw.use rfl hev.2.2.2.1.1) hce hcv hcl ?_
  refine W.widen (k := 1) (n := 6) (Nat.le_of_ble_eq_true rfl) (Nat.le_of_ble_eq_true rfl) ?_
  refine lv_astore_n (lv' := [(3, .ref q9), (0, .ref h0), (1, .int c0), (2, .ref qo)]) hx hb dL_mirror_12 rfl hl (by decide) rfl (fun ls hl => ?_)
  refine lv_iconst (v := 1) hx hb dL_mirror_13 (by decide) ?_
  exact W.iret (v := 1) hx hb hr (fun t ht hW => ⟨⟨1, (), rfl, rfl, trivial⟩, hS.F ht⟩) hS.2.2 dL_mirror_14
def wk_L_times : List Cond := .codeWith yL_times cL_times 5 (some .int) [(0, 10, 13, 20), (0, 10, 17, 13), (0, 10, 21, 15)] :: wU
set_option maxHeartbeats 4000000 in
set_option maxRecDepth 100000 in
theorem w_L_times (l : Launch) (hst : l.stackTraces = false) (dC : Nat → ClassId) (dI : Nat → Nat → Nat) (h0 sz qo : Nat) (fs : List Value) (c0 d0 : Int32) (hf : xF fs) : Met l yL_times wk_L_times ({ frames := 9, cells := 1, slots := 6, locals := 178 } : Room) (tQ dC dI [(h0, .inr (11, fs))] sz [.ref h0, .int c0, .int d0, .ref qo]) (va_Qi (S := Unit) (fun r _ => r = 1) (fun _ _ => True) (nw sz)) 1 6 (nw sz) := by
  refine px_ofWH (cc := cL_times) (maxL := 5) (ret := (some .int)) (hh := [(0, 10, 13, 20), (0, 10, 17, 13), (0, 10, 21, 15)]) (by decide) rfl ?_
  intro p e s m args below meth c s₁ B hml hv
  obtain ⟨rfl, hsz, hP, hK, hev, hdv, hZ⟩ := hv
  have hx := B.exec
  have hb := B.bytes
  have hr := B.returns
  have hts := atoms_spec (ws := wk_L_times) B.pre
  have hu : ∀ w ∈ wU, w.before ([.ref h0, .int c0, .int d0, .ref qo] : List Value).toArray s = true := fun w h => hts w (List.mem_cons_of_mem _ h)
  have hown : s.vm.findClass RL = some m.cls := findClass_of_methodNamed B.named
  have hlocks := B.notSynchronized
  subst hsz
  have hA : ∀ q : Nat, s.heap.size ≤ q → nw s.heap.size q := fun _ h => h
  have hS : va_S (nw s.heap.size) s.heap s.heap [] := va_S.rf
  have hl := lv_entry ([.ref h0, .int c0, .int d0, .ref qo]) (n := 5) (Nat.le_of_ble_eq_true rfl)
  rw [lg_entry_eq]
  generalize (lg_sl ([.ref h0, .int c0, .int d0, .ref qo]) ++ List.replicate (5 - (lg_sl ([.ref h0, .int c0, .int d0, .ref qo])).length) Slot.unset).toArray = ls at hl ⊢
  have hl : lv_has ls 5 [(0, .ref h0), (1, .int c0), (2, .int d0), (3, .ref qo)] := hl
  have htb := vx_table (x := yL_times) B (hts (.codeWith yL_times cL_times 5 (some .int) [(0, 10, 13, 20), (0, 10, 17, 13), (0, 10, 21, 15)]) List.mem_cons_self)
  refine lv_aload_n hx hb dL_times_0 rfl (lv_at hl 3 rfl) ?_
  refine lv_iconst (v := 0) hx hb dL_times_1 (by decide) ?_
  refine lv_aload_n hx hb dL_times_2 rfl (lv_at hl 0 rfl) ?_
  refine lv_iload_n hx hb dL_times_3 rfl (lv_at hl 1 rfl) ?_
  refine lv_iload_n hx hb dL_times_4 rfl (lv_at hl 2 rfl) ?_
  refine px_call (vx_runV (As := [.int c0, .int d0]) (rest := [.int 0, .ref qo]) ⟨hx, hb, hml, hown, hu⟩ (t_X11_times l hst dC dI h0 _ fs c0 d0 hf) (cwV 2 hu (gV u479 u480 u481 u432 u482) rfl rfl rfl (by decide +kernel) ⟨(Nat.le_of_ble_eq_true rfl), (Nat.le_of_ble_eq_true rfl)⟩) ⟨tQ_blind, va_recv hK hP (ci := 11) (q0 := 0) rfl rfl, tQ_at hP hK hev hdv hZ⟩ rfl rfl hl.1 rfl (lv_room (Nat.le_of_ble_eq_true rfl)) dL_times_5 ⟨(Nat.le_of_ble_eq_true rfl), (Nat.le_of_ble_eq_true rfl)⟩) rfl hS hA (fun ce q9 H locs hz1 hk1 hS hce hcv hcl => ?_)
  refine px_catch (name := nIOO) (E := nIOO) hown ⟨0, 10, 13, 20⟩ [⟨0, 10, 17, 13⟩, ⟨0, 10, 21, 15⟩] htb rfl (by decide) (hu _ u454) (va_Nw.use rfl hev.2.2.2.1.1) hce hcv hcl ?_
  refine W.widen (k := 1) (n := 6) (Nat.le_of_ble_eq_true rfl) (Nat.le_of_ble_eq_true rfl) ?_
  refine lv_astore (lv' := [(4, .ref q9), (0, .ref h0), (1, .int c0), (2, .int d0), (3, .ref qo)]) hx hb dL_times_13 hl (by decide) rfl (fun ls hl => ?_)
  refine lv_iconst (v := 1) hx hb dL_times_15 (by decide) ?_
  exact W.iret (v := 1) hx hb hr (fun t ht hW => ⟨⟨1, (), rfl, rfl, trivial⟩, hS.F ht⟩) hS.2.2 dL_times_16
def wk_L_order : List Cond := .codeWith yL_order cL_order 4 (some .int) [(0, 9, 12, 20)] :: wU
set_option maxHeartbeats 4000000 in
set_option maxRecDepth 100000 in
theorem w_L_order (l : Launch) (hst : l.stackTraces = false) (dC : Nat → ClassId) (dI : Nat → Nat → Nat) (h0 sz qo : Nat) (fs : List Value) (c0 : Int32) (hf : xF fs) : Met l yL_order wk_L_order ({ frames := 9, cells := 1, slots := 6, locals := 174 } : Room) (tQ dC dI [(h0, .inr (11, fs))] sz [.ref h0, .int c0, .ref qo]) (va_Qi (S := Unit) (fun r _ => r = 1) (fun _ _ => True) (nw sz)) 1 6 (nw sz) := by
  refine px_ofWH (cc := cL_order) (maxL := 4) (ret := (some .int)) (hh := [(0, 9, 12, 20)]) (by decide) rfl ?_
  intro p e s m args below meth c s₁ B hml hv
  obtain ⟨rfl, hsz, hP, hK, hev, hdv, hZ⟩ := hv
  have hx := B.exec
  have hb := B.bytes
  have hr := B.returns
  have hts := atoms_spec (ws := wk_L_order) B.pre
  have hu : ∀ w ∈ wU, w.before ([.ref h0, .int c0, .ref qo] : List Value).toArray s = true := fun w h => hts w (List.mem_cons_of_mem _ h)
  have hown : s.vm.findClass RL = some m.cls := findClass_of_methodNamed B.named
  have hlocks := B.notSynchronized
  subst hsz
  have hA : ∀ q : Nat, s.heap.size ≤ q → nw s.heap.size q := fun _ h => h
  have hS : va_S (nw s.heap.size) s.heap s.heap [] := va_S.rf
  have hl := lv_entry ([.ref h0, .int c0, .ref qo]) (n := 4) (Nat.le_of_ble_eq_true rfl)
  rw [lg_entry_eq]
  generalize (lg_sl ([.ref h0, .int c0, .ref qo]) ++ List.replicate (4 - (lg_sl ([.ref h0, .int c0, .ref qo])).length) Slot.unset).toArray = ls at hl ⊢
  have hl : lv_has ls 4 [(0, .ref h0), (1, .int c0), (2, .ref qo)] := hl
  have htb := vx_table (x := yL_order) B (hts (.codeWith yL_order cL_order 4 (some .int) [(0, 9, 12, 20)]) List.mem_cons_self)
  refine lv_aload_n hx hb dL_order_0 rfl (lv_at hl 2 rfl) ?_
  refine lv_iconst (v := 0) hx hb dL_order_1 (by decide) ?_
  refine lv_aload_n hx hb dL_order_2 rfl (lv_at hl 0 rfl) ?_
  refine lv_iload_n hx hb dL_order_3 rfl (lv_at hl 1 rfl) ?_
  refine px_call (vx_runV (As := [.int c0]) (rest := [.int 0, .ref qo]) ⟨hx, hb, hml, hown, hu⟩ (t_X11_order l hst dC dI h0 _ fs c0 hf) (cwV 1 hu (gV u483 u484 u485 u432 u486) rfl rfl rfl (by decide +kernel) ⟨(Nat.le_of_ble_eq_true rfl), (Nat.le_of_ble_eq_true rfl)⟩) ⟨tQ_blind, va_recv hK hP (ci := 11) (q0 := 0) rfl rfl, tQ_at hP hK hev hdv hZ⟩ rfl rfl hl.1 rfl (lv_room (Nat.le_of_ble_eq_true rfl)) dL_order_4 ⟨(Nat.le_of_ble_eq_true rfl), (Nat.le_of_ble_eq_true rfl)⟩) rfl hS hA (fun ce q9 H locs hz1 hk1 hS hce hcv hcl => ?_)
  refine px_catch (name := nIOO) (E := nIOO) hown ⟨0, 9, 12, 20⟩ [] htb rfl (by decide) (hu _ u454) (va_Nw.use rfl hev.2.2.2.1.1) hce hcv hcl ?_
  refine W.widen (k := 1) (n := 6) (Nat.le_of_ble_eq_true rfl) (Nat.le_of_ble_eq_true rfl) ?_
  refine lv_astore_n (lv' := [(3, .ref q9), (0, .ref h0), (1, .int c0), (2, .ref qo)]) hx hb dL_order_12 rfl hl (by decide) rfl (fun ls hl => ?_)
  refine lv_iconst (v := 1) hx hb dL_order_13 (by decide) ?_
  exact W.iret (v := 1) hx hb hr (fun t ht hW => ⟨⟨1, (), rfl, rfl, trivial⟩, hS.F ht⟩) hS.2.2 dL_order_14
def wk_L_told : List Cond := .codeWith yL_told cL_told 5 (some .int) [(0, 10, 13, 20), (0, 10, 17, 13)] :: wU
set_option maxHeartbeats 4000000 in
set_option maxRecDepth 100000 in
theorem w_L_told (l : Launch) (hst : l.stackTraces = false) (dC : Nat → ClassId) (dI : Nat → Nat → Nat) (h0 sz qo : Nat) (fs : List Value) (c0 d0 : Int32) (hf : xF fs) : Met l yL_told wk_L_told ({ frames := 9, cells := 1, slots := 6, locals := 175 } : Room) (tQ dC dI [(h0, .inr (11, fs))] sz [.ref h0, .int c0, .int d0, .ref qo]) (va_Qi (S := Unit) (fun r _ => r = 1) (fun _ _ => True) (nw sz)) 1 6 (nw sz) := by
  refine px_ofWH (cc := cL_told) (maxL := 5) (ret := (some .int)) (hh := [(0, 10, 13, 20), (0, 10, 17, 13)]) (by decide) rfl ?_
  intro p e s m args below meth c s₁ B hml hv
  obtain ⟨rfl, hsz, hP, hK, hev, hdv, hZ⟩ := hv
  have hx := B.exec
  have hb := B.bytes
  have hr := B.returns
  have hts := atoms_spec (ws := wk_L_told) B.pre
  have hu : ∀ w ∈ wU, w.before ([.ref h0, .int c0, .int d0, .ref qo] : List Value).toArray s = true := fun w h => hts w (List.mem_cons_of_mem _ h)
  have hown : s.vm.findClass RL = some m.cls := findClass_of_methodNamed B.named
  have hlocks := B.notSynchronized
  subst hsz
  have hA : ∀ q : Nat, s.heap.size ≤ q → nw s.heap.size q := fun _ h => h
  have hS : va_S (nw s.heap.size) s.heap s.heap [] := va_S.rf
  have hl := lv_entry ([.ref h0, .int c0, .int d0, .ref qo]) (n := 5) (Nat.le_of_ble_eq_true rfl)
  rw [lg_entry_eq]
  generalize (lg_sl ([.ref h0, .int c0, .int d0, .ref qo]) ++ List.replicate (5 - (lg_sl ([.ref h0, .int c0, .int d0, .ref qo])).length) Slot.unset).toArray = ls at hl ⊢
  have hl : lv_has ls 5 [(0, .ref h0), (1, .int c0), (2, .int d0), (3, .ref qo)] := hl
  have htb := vx_table (x := yL_told) B (hts (.codeWith yL_told cL_told 5 (some .int) [(0, 10, 13, 20), (0, 10, 17, 13)]) List.mem_cons_self)
  refine lv_aload_n hx hb dL_told_0 rfl (lv_at hl 3 rfl) ?_
  refine lv_iconst (v := 0) hx hb dL_told_1 (by decide) ?_
  refine lv_aload_n hx hb dL_told_2 rfl (lv_at hl 0 rfl) ?_
  refine lv_iload_n hx hb dL_told_3 rfl (lv_at hl 1 rfl) ?_
  refine lv_iload_n hx hb dL_told_4 rfl (lv_at hl 2 rfl) ?_
  refine px_call (vx_runV (As := [.int c0, .int d0]) (rest := [.int 0, .ref qo]) ⟨hx, hb, hml, hown, hu⟩ (t_X11_told l hst dC dI h0 _ fs c0 d0 hf) (cwV 2 hu (gV u487 u488 u489 u432 u490) rfl rfl rfl (by decide +kernel) ⟨(Nat.le_of_ble_eq_true rfl), (Nat.le_of_ble_eq_true rfl)⟩) ⟨tQ_blind, va_recv hK hP (ci := 11) (q0 := 0) rfl rfl, tQ_at hP hK hev hdv hZ⟩ rfl rfl hl.1 rfl (lv_room (Nat.le_of_ble_eq_true rfl)) dL_told_5 ⟨(Nat.le_of_ble_eq_true rfl), (Nat.le_of_ble_eq_true rfl)⟩) rfl hS hA (fun ce q9 H locs hz1 hk1 hS hce hcv hcl => ?_)
  refine px_catch (name := nIOO) (E := nIOO) hown ⟨0, 10, 13, 20⟩ [⟨0, 10, 17, 13⟩] htb rfl (by decide) (hu _ u454) (va_Nw.use rfl hev.2.2.2.1.1) hce hcv hcl ?_
  refine W.widen (k := 1) (n := 6) (Nat.le_of_ble_eq_true rfl) (Nat.le_of_ble_eq_true rfl) ?_
  refine lv_astore (lv' := [(4, .ref q9), (0, .ref h0), (1, .int c0), (2, .int d0), (3, .ref qo)]) hx hb dL_told_13 hl (by decide) rfl (fun ls hl => ?_)
  refine lv_iconst (v := 1) hx hb dL_told_15 (by decide) ?_
  exact W.iret (v := 1) hx hb hr (fun t ht hW => ⟨⟨1, (), rfl, rfl, trivial⟩, hS.F ht⟩) hS.2.2 dL_told_16
def wk_L_print : List Cond := .codeWith yL_print cL_print 5 (some .int) [(0, 10, 13, 20), (0, 10, 17, 13)] :: wU
set_option maxHeartbeats 4000000 in
set_option maxRecDepth 100000 in
theorem w_L_print (l : Launch) (hst : l.stackTraces = false) (dC : Nat → ClassId) (dI : Nat → Nat → Nat) (h0 sz qo : Nat) (fs : List Value) (c0 d0 : Int32) (hf : xF fs) : Met l yL_print wk_L_print ({ frames := 9, cells := 1, slots := 6, locals := 175 } : Room) (tQ dC dI [(h0, .inr (11, fs))] sz [.ref h0, .int c0, .int d0, .ref qo]) (va_Qi (S := Unit) (fun r _ => r = 1) (fun _ _ => True) (nw sz)) 1 6 (nw sz) := by
  refine px_ofWH (cc := cL_print) (maxL := 5) (ret := (some .int)) (hh := [(0, 10, 13, 20), (0, 10, 17, 13)]) (by decide) rfl ?_
  intro p e s m args below meth c s₁ B hml hv
  obtain ⟨rfl, hsz, hP, hK, hev, hdv, hZ⟩ := hv
  have hx := B.exec
  have hb := B.bytes
  have hr := B.returns
  have hts := atoms_spec (ws := wk_L_print) B.pre
  have hu : ∀ w ∈ wU, w.before ([.ref h0, .int c0, .int d0, .ref qo] : List Value).toArray s = true := fun w h => hts w (List.mem_cons_of_mem _ h)
  have hown : s.vm.findClass RL = some m.cls := findClass_of_methodNamed B.named
  have hlocks := B.notSynchronized
  subst hsz
  have hA : ∀ q : Nat, s.heap.size ≤ q → nw s.heap.size q := fun _ h => h
  have hS : va_S (nw s.heap.size) s.heap s.heap [] := va_S.rf
  have hl := lv_entry ([.ref h0, .int c0, .int d0, .ref qo]) (n := 5) (Nat.le_of_ble_eq_true rfl)
  rw [lg_entry_eq]
  generalize (lg_sl ([.ref h0, .int c0, .int d0, .ref qo]) ++ List.replicate (5 - (lg_sl ([.ref h0, .int c0, .int d0, .ref qo])).length) Slot.unset).toArray = ls at hl ⊢
  have hl : lv_has ls 5 [(0, .ref h0), (1, .int c0), (2, .int d0), (3, .ref qo)] := hl
  have htb := vx_table (x := yL_print) B (hts (.codeWith yL_print cL_print 5 (some .int) [(0, 10, 13, 20), (0, 10, 17, 13)]) List.mem_cons_self)
  refine lv_aload_n hx hb dL_print_0 rfl (lv_at hl 3 rfl) ?_
  refine lv_iconst (v := 0) hx hb dL_print_1 (by decide) ?_
  refine lv_aload_n hx hb dL_print_2 rfl (lv_at hl 0 rfl) ?_
  refine lv_iload_n hx hb dL_print_3 rfl (lv_at hl 1 rfl) ?_
  refine lv_iload_n hx hb dL_print_4 rfl (lv_at hl 2 rfl) ?_
  refine px_call (vx_runV (As := [.int c0, .int d0]) (rest := [.int 0, .ref qo]) ⟨hx, hb, hml, hown, hu⟩ (t_X11_print l hst dC dI h0 _ fs c0 d0 hf) (cwV 2 hu (gV u491 u492 u493 u432 u494) rfl rfl rfl (by decide +kernel) ⟨(Nat.le_of_ble_eq_true rfl), (Nat.le_of_ble_eq_true rfl)⟩) ⟨tQ_blind, va_recv hK hP (ci := 11) (q0 := 0) rfl rfl, tQ_at hP hK hev hdv hZ⟩ rfl rfl hl.1 rfl (lv_room (Nat.le_of_ble_eq_true rfl)) dL_print_5 ⟨(Nat.le_of_ble_eq_true rfl), (Nat.le_of_ble_eq_true rfl)⟩) rfl hS hA (fun ce q9 H locs hz1 hk1 hS hce hcv hcl => ?_)
  refine px_catch (name := nIOO) (E := nIOO) hown ⟨0, 10, 13, 20⟩ [⟨0, 10, 17, 13⟩] htb rfl (by decide) (hu _ u454) (va_Nw.use rfl hev.2.2.2.1.1) hce hcv hcl ?_
  refine W.widen (k := 1) (n := 6) (Nat.le_of_ble_eq_true rfl) (Nat.le_of_ble_eq_true rfl) ?_
  refine lv_astore (lv' := [(4, .ref q9), (0, .ref h0), (1, .int c0), (2, .int d0), (3, .ref qo)]) hx hb dL_print_13 hl (by decide) rfl (fun ls hl => ?_)
  refine lv_iconst (v := 1) hx hb dL_print_15 (by decide) ?_
  exact W.iret (v := 1) hx hb hr (fun t ht hW => ⟨⟨1, (), rfl, rfl, trivial⟩, hS.F ht⟩) hS.2.2 dL_print_16
def wk_L_back : List Cond := .codeWith yL_back cL_back 4 (some .int) [(0, 9, 12, 20), (0, 9, 15, 13)] :: wU
set_option maxHeartbeats 4000000 in
set_option maxRecDepth 100000 in
theorem w_L_back (l : Launch) (hst : l.stackTraces = false) (dC : Nat → ClassId) (dI : Nat → Nat → Nat) (h0 sz qo : Nat) (fs : List Value) (c0 : Int32) (hf : xF fs) : Met l yL_back wk_L_back ({ frames := 10, cells := 1, slots := 6, locals := 195 } : Room) (tQ dC dI [(h0, .inr (11, fs))] sz [.ref h0, .int c0, .ref qo]) (va_Qi (S := Unit) (fun r _ => r = 1) (fun _ _ => True) (nw sz)) 1 6 (nw sz) := by
  refine px_ofWH (cc := cL_back) (maxL := 4) (ret := (some .int)) (hh := [(0, 9, 12, 20), (0, 9, 15, 13)]) (by decide) rfl ?_
  intro p e s m args below meth c s₁ B hml hv
  obtain ⟨rfl, hsz, hP, hK, hev, hdv, hZ⟩ := hv
  have hx := B.exec
  have hb := B.bytes
  have hr := B.returns
  have hts := atoms_spec (ws := wk_L_back) B.pre
  have hu : ∀ w ∈ wU, w.before ([.ref h0, .int c0, .ref qo] : List Value).toArray s = true := fun w h => hts w (List.mem_cons_of_mem _ h)
  have hown : s.vm.findClass RL = some m.cls := findClass_of_methodNamed B.named
  have hlocks := B.notSynchronized
  subst hsz
  have hA : ∀ q : Nat, s.heap.size ≤ q → nw s.heap.size q := fun _ h => h
  have hS : va_S (nw s.heap.size) s.heap s.heap [] := va_S.rf
  have hl := lv_entry ([.ref h0, .int c0, .ref qo]) (n := 4) (Nat.le_of_ble_eq_true rfl)
  rw [lg_entry_eq]
  generalize (lg_sl ([.ref h0, .int c0, .ref qo]) ++ List.replicate (4 - (lg_sl ([.ref h0, .int c0, .ref qo])).length) Slot.unset).toArray = ls at hl ⊢
  have hl : lv_has ls 4 [(0, .ref h0), (1, .int c0), (2, .ref qo)] := hl
  have htb := vx_table (x := yL_back) B (hts (.codeWith yL_back cL_back 4 (some .int) [(0, 9, 12, 20), (0, 9, 15, 13)]) List.mem_cons_self)
  refine lv_aload_n hx hb dL_back_0 rfl (lv_at hl 2 rfl) ?_
  refine lv_iconst (v := 0) hx hb dL_back_1 (by decide) ?_
  refine lv_aload_n hx hb dL_back_2 rfl (lv_at hl 0 rfl) ?_
  refine lv_iload_n hx hb dL_back_3 rfl (lv_at hl 1 rfl) ?_
  refine px_call (vx_runV (As := [.int c0]) (rest := [.int 0, .ref qo]) ⟨hx, hb, hml, hown, hu⟩ (t_X11_back l hst dC dI h0 _ fs c0 hf) (cwV 1 hu (gV u495 u496 u497 u432 u498) rfl rfl rfl (by decide +kernel) ⟨(Nat.le_of_ble_eq_true rfl), (Nat.le_of_ble_eq_true rfl)⟩) ⟨tQ_blind, va_recv hK hP (ci := 11) (q0 := 0) rfl rfl, tQ_at hP hK hev hdv hZ⟩ rfl rfl hl.1 rfl (lv_room (Nat.le_of_ble_eq_true rfl)) dL_back_4 ⟨(Nat.le_of_ble_eq_true rfl), (Nat.le_of_ble_eq_true rfl)⟩) rfl hS hA (fun ce q9 H locs hz1 hk1 hS hce hcv hcl => ?_)
  refine px_catch (name := nIOO) (E := nIOO) hown ⟨0, 9, 12, 20⟩ [⟨0, 9, 15, 13⟩] htb rfl (by decide) (hu _ u454) (va_Nw.use rfl hev.2.2.2.1.1) hce hcv hcl ?_
  refine W.widen (k := 1) (n := 6) (Nat.le_of_ble_eq_true rfl) (Nat.le_of_ble_eq_true rfl) ?_
  refine lv_astore_n (lv' := [(3, .ref q9), (0, .ref h0), (1, .int c0), (2, .ref qo)]) hx hb dL_back_12 rfl hl (by decide) rfl (fun ls hl => ?_)
  refine lv_iconst (v := 1) hx hb dL_back_13 (by decide) ?_
  exact W.iret (v := 1) hx hb hr (fun t ht hW => ⟨⟨1, (), rfl, rfl, trivial⟩, hS.F ht⟩) hS.2.2 dL_back_14
def wk_L_backAt : List Cond := .codeWith yL_backAt cL_backAt 5 (some .int) [(0, 10, 13, 20), (0, 10, 17, 13), (0, 10, 21, 15)] :: wU
set_option maxHeartbeats 4000000 in
set_option maxRecDepth 100000 in
theorem w_L_backAt (l : Launch) (hst : l.stackTraces = false) (dC : Nat → ClassId) (dI : Nat → Nat → Nat) (h0 sz qo : Nat) (fs : List Value) (c0 d0 : Int32) (hf : xF fs) : Met l yL_backAt wk_L_backAt ({ frames := 10, cells := 1, slots := 6, locals := 197 } : Room) (tQ dC dI [(h0, .inr (11, fs))] sz [.ref h0, .int c0, .int d0, .ref qo]) (va_Qi (S := Unit) (fun r _ => r = 1) (fun _ _ => True) (nw sz)) 1 6 (nw sz) := by
  refine px_ofWH (cc := cL_backAt) (maxL := 5) (ret := (some .int)) (hh := [(0, 10, 13, 20), (0, 10, 17, 13), (0, 10, 21, 15)]) (by decide) rfl ?_
  intro p e s m args below meth c s₁ B hml hv
  obtain ⟨rfl, hsz, hP, hK, hev, hdv, hZ⟩ := hv
  have hx := B.exec
  have hb := B.bytes
  have hr := B.returns
  have hts := atoms_spec (ws := wk_L_backAt) B.pre
  have hu : ∀ w ∈ wU, w.before ([.ref h0, .int c0, .int d0, .ref qo] : List Value).toArray s = true := fun w h => hts w (List.mem_cons_of_mem _ h)
  have hown : s.vm.findClass RL = some m.cls := findClass_of_methodNamed B.named
  have hlocks := B.notSynchronized
  subst hsz
  have hA : ∀ q : Nat, s.heap.size ≤ q → nw s.heap.size q := fun _ h => h
  have hS : va_S (nw s.heap.size) s.heap s.heap [] := va_S.rf
  have hl := lv_entry ([.ref h0, .int c0, .int d0, .ref qo]) (n := 5) (Nat.le_of_ble_eq_true rfl)
  rw [lg_entry_eq]
  generalize (lg_sl ([.ref h0, .int c0, .int d0, .ref qo]) ++ List.replicate (5 - (lg_sl ([.ref h0, .int c0, .int d0, .ref qo])).length) Slot.unset).toArray = ls at hl ⊢
  have hl : lv_has ls 5 [(0, .ref h0), (1, .int c0), (2, .int d0), (3, .ref qo)] := hl
  have htb := vx_table (x := yL_backAt) B (hts (.codeWith yL_backAt cL_backAt 5 (some .int) [(0, 10, 13, 20), (0, 10, 17, 13), (0, 10, 21, 15)]) List.mem_cons_self)
  refine lv_aload_n hx hb dL_backAt_0 rfl (lv_at hl 3 rfl) ?_
  refine lv_iconst (v := 0) hx hb dL_backAt_1 (by decide) ?_
  refine lv_aload_n hx hb dL_backAt_2 rfl (lv_at hl 0 rfl) ?_
  refine lv_iload_n hx hb dL_backAt_3 rfl (lv_at hl 1 rfl) ?_
  refine lv_iload_n hx hb dL_backAt_4 rfl (lv_at hl 2 rfl) ?_
  refine px_call (vx_runV (As := [.int c0, .int d0]) (rest := [.int 0, .ref qo]) ⟨hx, hb, hml, hown, hu⟩ (t_X11_backAt l hst dC dI h0 _ fs c0 d0 hf) (cwV 2 hu (gV u499 u500 u501 u432 u502) rfl rfl rfl (by decide +kernel) ⟨(Nat.le_of_ble_eq_true rfl), (Nat.le_of_ble_eq_true rfl)⟩) ⟨tQ_blind, va_recv hK hP (ci := 11) (q0 := 0) rfl rfl, tQ_at hP hK hev hdv hZ⟩ rfl rfl hl.1 rfl (lv_room (Nat.le_of_ble_eq_true rfl)) dL_backAt_5 ⟨(Nat.le_of_ble_eq_true rfl), (Nat.le_of_ble_eq_true rfl)⟩) rfl hS hA (fun ce q9 H locs hz1 hk1 hS hce hcv hcl => ?_)
  refine px_catch (name := nIOO) (E := nIOO) hown ⟨0, 10, 13, 20⟩ [⟨0, 10, 17, 13⟩, ⟨0, 10, 21, 15⟩] htb rfl (by decide) (hu _ u454) (va_Nw.use rfl hev.2.2.2.1.1) hce hcv hcl ?_
  refine W.widen (k := 1) (n := 6) (Nat.le_of_ble_eq_true rfl) (Nat.le_of_ble_eq_true rfl) ?_
  refine lv_astore (lv' := [(4, .ref q9), (0, .ref h0), (1, .int c0), (2, .int d0), (3, .ref qo)]) hx hb dL_backAt_13 hl (by decide) rfl (fun ls hl => ?_)
  refine lv_iconst (v := 1) hx hb dL_backAt_15 (by decide) ?_
  exact W.iret (v := 1) hx hb hr (fun t ht hW => ⟨⟨1, (), rfl, rfl, trivial⟩, hS.F ht⟩) hS.2.2 dL_backAt_16
def wk_L_search : List Cond := .codeWith yL_search cL_search 5 (some .int) [(0, 10, 13, 20), (0, 10, 17, 13)] :: wU
set_option maxHeartbeats 4000000 in
set_option maxRecDepth 100000 in
theorem w_L_search (l : Launch) (hst : l.stackTraces = false) (dC : Nat → ClassId) (dI : Nat → Nat → Nat) (h0 sz qo : Nat) (fs : List Value) (c0 d0 : Int32) (hf : xF fs) : Met l yL_search wk_L_search ({ frames := 10, cells := 1, slots := 6, locals := 197 } : Room) (tQ dC dI [(h0, .inr (11, fs))] sz [.ref h0, .int c0, .int d0, .ref qo]) (va_Qi (S := Unit) (fun r _ => r = 1) (fun _ _ => True) (nw sz)) 1 6 (nw sz) := by
  refine px_ofWH (cc := cL_search) (maxL := 5) (ret := (some .int)) (hh := [(0, 10, 13, 20), (0, 10, 17, 13)]) (by decide) rfl ?_
  intro p e s m args below meth c s₁ B hml hv
  obtain ⟨rfl, hsz, hP, hK, hev, hdv, hZ⟩ := hv
  have hx := B.exec
  have hb := B.bytes
  have hr := B.returns
  have hts := atoms_spec (ws := wk_L_search) B.pre
  have hu : ∀ w ∈ wU, w.before ([.ref h0, .int c0, .int d0, .ref qo] : List Value).toArray s = true := fun w h => hts w (List.mem_cons_of_mem _ h)
  have hown : s.vm.findClass RL = some m.cls := findClass_of_methodNamed B.named
  have hlocks := B.notSynchronized
  subst hsz
  have hA : ∀ q : Nat, s.heap.size ≤ q → nw s.heap.size q := fun _ h => h
  have hS : va_S (nw s.heap.size) s.heap s.heap [] := va_S.rf
  have hl := lv_entry ([.ref h0, .int c0, .int d0, .ref qo]) (n := 5) (Nat.le_of_ble_eq_true rfl)
  rw [lg_entry_eq]
  generalize (lg_sl ([.ref h0, .int c0, .int d0, .ref qo]) ++ List.replicate (5 - (lg_sl ([.ref h0, .int c0, .int d0, .ref qo])).length) Slot.unset).toArray = ls at hl ⊢
  have hl : lv_has ls 5 [(0, .ref h0), (1, .int c0), (2, .int d0), (3, .ref qo)] := hl
  have htb := vx_table (x := yL_search) B (hts (.codeWith yL_search cL_search 5 (some .int) [(0, 10, 13, 20), (0, 10, 17, 13)]) List.mem_cons_self)
  refine lv_aload_n hx hb dL_search_0 rfl (lv_at hl 3 rfl) ?_
  refine lv_iconst (v := 0) hx hb dL_search_1 (by decide) ?_
  refine lv_aload_n hx hb dL_search_2 rfl (lv_at hl 0 rfl) ?_
  refine lv_iload_n hx hb dL_search_3 rfl (lv_at hl 1 rfl) ?_
  refine lv_iload_n hx hb dL_search_4 rfl (lv_at hl 2 rfl) ?_
  refine px_call (vx_runV (As := [.int c0, .int d0]) (rest := [.int 0, .ref qo]) ⟨hx, hb, hml, hown, hu⟩ (t_X11_search l hst dC dI h0 _ fs c0 d0 hf) (cwV 2 hu (gV u503 u504 u505 u432 u506) rfl rfl rfl (by decide +kernel) ⟨(Nat.le_of_ble_eq_true rfl), (Nat.le_of_ble_eq_true rfl)⟩) ⟨tQ_blind, va_recv hK hP (ci := 11) (q0 := 0) rfl rfl, tQ_at hP hK hev hdv hZ⟩ rfl rfl hl.1 rfl (lv_room (Nat.le_of_ble_eq_true rfl)) dL_search_5 ⟨(Nat.le_of_ble_eq_true rfl), (Nat.le_of_ble_eq_true rfl)⟩) rfl hS hA (fun ce q9 H locs hz1 hk1 hS hce hcv hcl => ?_)
  refine px_catch (name := nIOO) (E := nIOO) hown ⟨0, 10, 13, 20⟩ [⟨0, 10, 17, 13⟩] htb rfl (by decide) (hu _ u454) (va_Nw.use rfl hev.2.2.2.1.1) hce hcv hcl ?_
  refine W.widen (k := 1) (n := 6) (Nat.le_of_ble_eq_true rfl) (Nat.le_of_ble_eq_true rfl) ?_
  refine lv_astore (lv' := [(4, .ref q9), (0, .ref h0), (1, .int c0), (2, .int d0), (3, .ref qo)]) hx hb dL_search_13 hl (by decide) rfl (fun ls hl => ?_)
  refine lv_iconst (v := 1) hx hb dL_search_15 (by decide) ?_
  exact W.iret (v := 1) hx hb hr (fun t ht hW => ⟨⟨1, (), rfl, rfl, trivial⟩, hS.F ht⟩) hS.2.2 dL_search_16
def wk_L_count : List Cond := .codeWith yL_count cL_count 4 (some .int) [(0, 9, 12, 20), (0, 9, 15, 13)] :: wU
set_option maxHeartbeats 4000000 in
set_option maxRecDepth 100000 in
theorem w_L_count (l : Launch) (hst : l.stackTraces = false) (dC : Nat → ClassId) (dI : Nat → Nat → Nat) (h0 sz qo : Nat) (fs : List Value) (c0 : Int32) (hf : xF fs) : Met l yL_count wk_L_count ({ frames := 10, cells := 1, slots := 6, locals := 195 } : Room) (tQ dC dI [(h0, .inr (11, fs))] sz [.ref h0, .int c0, .ref qo]) (va_Qi (S := Unit) (fun r _ => r = 1) (fun _ _ => True) (nw sz)) 1 6 (nw sz) := by
  refine px_ofWH (cc := cL_count) (maxL := 4) (ret := (some .int)) (hh := [(0, 9, 12, 20), (0, 9, 15, 13)]) (by decide) rfl ?_
  intro p e s m args below meth c s₁ B hml hv
  obtain ⟨rfl, hsz, hP, hK, hev, hdv, hZ⟩ := hv
  have hx := B.exec
  have hb := B.bytes
  have hr := B.returns
  have hts := atoms_spec (ws := wk_L_count) B.pre
  have hu : ∀ w ∈ wU, w.before ([.ref h0, .int c0, .ref qo] : List Value).toArray s = true := fun w h => hts w (List.mem_cons_of_mem _ h)
  have hown : s.vm.findClass RL = some m.cls := findClass_of_methodNamed B.named
  have hlocks := B.notSynchronized
  subst hsz
  have hA : ∀ q : Nat, s.heap.size ≤ q → nw s.heap.size q := fun _ h => h
  have hS : va_S (nw s.heap.size) s.heap s.heap [] := va_S.rf
  have hl := lv_entry ([.ref h0, .int c0, .ref qo]) (n := 4) (Nat.le_of_ble_eq_true rfl)
  rw [lg_entry_eq]
  generalize (lg_sl ([.ref h0, .int c0, .ref qo]) ++ List.replicate (4 - (lg_sl ([.ref h0, .int c0, .ref qo])).length) Slot.unset).toArray = ls at hl ⊢
  have hl : lv_has ls 4 [(0, .ref h0), (1, .int c0), (2, .ref qo)] := hl
  have htb := vx_table (x := yL_count) B (hts (.codeWith yL_count cL_count 4 (some .int) [(0, 9, 12, 20), (0, 9, 15, 13)]) List.mem_cons_self)
  refine lv_aload_n hx hb dL_count_0 rfl (lv_at hl 2 rfl) ?_
  refine lv_iconst (v := 0) hx hb dL_count_1 (by decide) ?_
  refine lv_aload_n hx hb dL_count_2 rfl (lv_at hl 0 rfl) ?_
  refine lv_iload_n hx hb dL_count_3 rfl (lv_at hl 1 rfl) ?_
  refine px_call (vx_runV (As := [.int c0]) (rest := [.int 0, .ref qo]) ⟨hx, hb, hml, hown, hu⟩ (t_X11_count l hst dC dI h0 _ fs c0 hf) (cwV 1 hu (gV u507 u508 u509 u432 u510) rfl rfl rfl (by decide +kernel) ⟨(Nat.le_of_ble_eq_true rfl), (Nat.le_of_ble_eq_true rfl)⟩) ⟨tQ_blind, va_recv hK hP (ci := 11) (q0 := 0) rfl rfl, tQ_at hP hK hev hdv hZ⟩ rfl rfl hl.1 rfl (lv_room (Nat.le_of_ble_eq_true rfl)) dL_count_4 ⟨(Nat.le_of_ble_eq_true rfl), (Nat.le_of_ble_eq_true rfl)⟩) rfl hS hA (fun ce q9 H locs hz1 hk1 hS hce hcv hcl => ?_)
  refine px_catch (name := nIOO) (E := nIOO) hown ⟨0, 9, 12, 20⟩ [⟨0, 9, 15, 13⟩] htb rfl (by decide) (hu _ u454) (va_Nw.use rfl hev.2.2.2.1.1) hce hcv hcl ?_
  refine W.widen (k := 1) (n := 6) (Nat.le_of_ble_eq_true rfl) (Nat.le_of_ble_eq_true rfl) ?_
  refine lv_astore_n (lv' := [(3, .ref q9), (0, .ref h0), (1, .int c0), (2, .ref qo)]) hx hb dL_count_12 rfl hl (by decide) rfl (fun ls hl => ?_)
  refine lv_iconst (v := 1) hx hb dL_count_13 (by decide) ?_
  exact W.iret (v := 1) hx hb hr (fun t ht hW => ⟨⟨1, (), rfl, rfl, trivial⟩, hS.F ht⟩) hS.2.2 dL_count_14
def wk_L_over : List Cond := .codeWith yL_over cL_over 5 (some .int) [(0, 9, 12, 20), (0, 9, 16, 13)] :: wU
set_option maxHeartbeats 4000000 in
set_option maxRecDepth 100000 in
theorem w_L_over (l : Launch) (hst : l.stackTraces = false) (dC : Nat → ClassId) (dI : Nat → Nat → Nat) (h0 sz qo : Nat) (fs : List Value) (c0 d0 : Int32) (hf : xF fs) : Met l yL_over wk_L_over ({ frames := 10, cells := 1, slots := 6, locals := 210 } : Room) (tQ dC dI [(h0, .inr (11, fs))] sz [.ref h0, .int c0, .int d0, .ref qo]) (va_Qi (S := Unit) (fun r _ => r = 1) (fun _ _ => True) (nw sz)) 1 6 (nw sz) := by
  refine px_ofWH (cc := cL_over) (maxL := 5) (ret := (some .int)) (hh := [(0, 9, 12, 20), (0, 9, 16, 13)]) (by decide) rfl ?_
  intro p e s m args below meth c s₁ B hml hv
  obtain ⟨rfl, hsz, hP, hK, hev, hdv, hZ⟩ := hv
  have hx := B.exec
  have hb := B.bytes
  have hr := B.returns
  have hts := atoms_spec (ws := wk_L_over) B.pre
  have hu : ∀ w ∈ wU, w.before ([.ref h0, .int c0, .int d0, .ref qo] : List Value).toArray s = true := fun w h => hts w (List.mem_cons_of_mem _ h)
  have hown : s.vm.findClass RL = some m.cls := findClass_of_methodNamed B.named
  have hlocks := B.notSynchronized
  subst hsz
  have hA : ∀ q : Nat, s.heap.size ≤ q → nw s.heap.size q := fun _ h => h
  have hS : va_S (nw s.heap.size) s.heap s.heap [] := va_S.rf
  have hl := lv_entry ([.ref h0, .int c0, .int d0, .ref qo]) (n := 5) (Nat.le_of_ble_eq_true rfl)
  rw [lg_entry_eq]
  generalize (lg_sl ([.ref h0, .int c0, .int d0, .ref qo]) ++ List.replicate (5 - (lg_sl ([.ref h0, .int c0, .int d0, .ref qo])).length) Slot.unset).toArray = ls at hl ⊢
  have hl : lv_has ls 5 [(0, .ref h0), (1, .int c0), (2, .int d0), (3, .ref qo)] := hl
  have htb := vx_table (x := yL_over) B (hts (.codeWith yL_over cL_over 5 (some .int) [(0, 9, 12, 20), (0, 9, 16, 13)]) List.mem_cons_self)
  refine lv_aload_n hx hb dL_over_0 rfl (lv_at hl 3 rfl) ?_
  refine lv_iconst (v := 0) hx hb dL_over_1 (by decide) ?_
  refine lv_aload_n hx hb dL_over_2 rfl (lv_at hl 0 rfl) ?_
  refine lv_iload_n hx hb dL_over_3 rfl (lv_at hl 1 rfl) ?_
  refine lv_iload_n hx hb dL_over_4 rfl (lv_at hl 2 rfl) ?_
  refine px_call (vx_runV (As := [.int c0, .int d0]) (rest := [.int 0, .ref qo]) ⟨hx, hb, hml, hown, hu⟩ (t_X11_over l hst dC dI h0 _ fs c0 d0 hf) (cwV 2 hu (gV u511 u512 u513 u432 u514) rfl rfl rfl (by decide +kernel) ⟨(Nat.le_of_ble_eq_true rfl), (Nat.le_of_ble_eq_true rfl)⟩) ⟨tQ_blind, va_recv hK hP (ci := 11) (q0 := 0) rfl rfl, tQ_at hP hK hev hdv hZ⟩ rfl rfl hl.1 rfl (lv_room (Nat.le_of_ble_eq_true rfl)) dL_over_5 ⟨(Nat.le_of_ble_eq_true rfl), (Nat.le_of_ble_eq_true rfl)⟩) rfl hS hA (fun ce q9 H locs hz1 hk1 hS hce hcv hcl => ?_)
  refine px_catch (name := nIOO) (E := nIOO) hown ⟨0, 9, 12, 20⟩ [⟨0, 9, 16, 13⟩] htb rfl (by decide) (hu _ u454) (va_Nw.use rfl hev.2.2.2.1.1) hce hcv hcl ?_
  refine W.widen (k := 1) (n := 6) (Nat.le_of_ble_eq_true rfl) (Nat.le_of_ble_eq_true rfl) ?_
  refine lv_astore (lv' := [(4, .ref q9), (0, .ref h0), (1, .int c0), (2, .int d0), (3, .ref qo)]) hx hb dL_over_12 hl (by decide) rfl (fun ls hl => ?_)
  refine lv_iconst (v := 1) hx hb dL_over_14 (by decide) ?_
  exact W.iret (v := 1) hx hb hr (fun t ht hW => ⟨⟨1, (), rfl, rfl, trivial⟩, hS.F ht⟩) hS.2.2 dL_over_15
def wk_L_list : List Cond := .codeWith yL_list cL_list 5 (some .int) [(0, 10, 13, 20), (0, 10, 17, 13), (0, 10, 21, 15)] :: wU
set_option maxHeartbeats 4000000 in
set_option maxRecDepth 100000 in
theorem w_L_list (l : Launch) (hst : l.stackTraces = false) (dC : Nat → ClassId) (dI : Nat → Nat → Nat) (h0 sz qo : Nat) (fs : List Value) (c0 d0 : Int32) (hf : xF fs) : Met l yL_list wk_L_list ({ frames := 11, cells := 1, slots := 6, locals := 219 } : Room) (tQ dC dI [(h0, .inr (11, fs))] sz [.ref h0, .int c0, .int d0, .ref qo]) (va_Qi (S := Unit) (fun r _ => r = 1) (fun _ _ => True) (nw sz)) 1 6 (nw sz) := by
  refine px_ofWH (cc := cL_list) (maxL := 5) (ret := (some .int)) (hh := [(0, 10, 13, 20), (0, 10, 17, 13), (0, 10, 21, 15)]) (by decide) rfl ?_
  intro p e s m args below meth c s₁ B hml hv
  obtain ⟨rfl, hsz, hP, hK, hev, hdv, hZ⟩ := hv
  have hx := B.exec
  have hb := B.bytes
  have hr := B.returns
  have hts := atoms_spec (ws := wk_L_list) B.pre
  have hu : ∀ w ∈ wU, w.before ([.ref h0, .int c0, .int d0, .ref qo] : List Value).toArray s = true := fun w h => hts w (List.mem_cons_of_mem _ h)
  have hown : s.vm.findClass RL = some m.cls := findClass_of_methodNamed B.named
  have hlocks := B.notSynchronized
  subst hsz
  have hA : ∀ q : Nat, s.heap.size ≤ q → nw s.heap.size q := fun _ h => h
  have hS : va_S (nw s.heap.size) s.heap s.heap [] := va_S.rf
  have hl := lv_entry ([.ref h0, .int c0, .int d0, .ref qo]) (n := 5) (Nat.le_of_ble_eq_true rfl)
  rw [lg_entry_eq]
  generalize (lg_sl ([.ref h0, .int c0, .int d0, .ref qo]) ++ List.replicate (5 - (lg_sl ([.ref h0, .int c0, .int d0, .ref qo])).length) Slot.unset).toArray = ls at hl ⊢
  have hl : lv_has ls 5 [(0, .ref h0), (1, .int c0), (2, .int d0), (3, .ref qo)] := hl
  have htb := vx_table (x := yL_list) B (hts (.codeWith yL_list cL_list 5 (some .int) [(0, 10, 13, 20), (0, 10, 17, 13), (0, 10, 21, 15)]) List.mem_cons_self)
  refine lv_aload_n hx hb dL_list_0 rfl (lv_at hl 3 rfl) ?_
  refine lv_iconst (v := 0) hx hb dL_list_1 (by decide) ?_
  refine lv_aload_n hx hb dL_list_2 rfl (lv_at hl 0 rfl) ?_
  refine lv_iload_n hx hb dL_list_3 rfl (lv_at hl 1 rfl) ?_
  refine lv_iload_n hx hb dL_list_4 rfl (lv_at hl 2 rfl) ?_
  refine px_call (vx_runV (As := [.int c0, .int d0]) (rest := [.int 0, .ref qo]) ⟨hx, hb, hml, hown, hu⟩ (t_X11_list l hst dC dI h0 _ fs c0 d0 hf) (cwV 2 hu (gV u515 u516 u517 u432 u518) rfl rfl rfl (by decide +kernel) ⟨(Nat.le_of_ble_eq_true rfl), (Nat.le_of_ble_eq_true rfl)⟩) ⟨tQ_blind, va_recv hK hP (ci := 11) (q0 := 0) rfl rfl, tQ_at hP hK hev hdv hZ⟩ rfl rfl hl.1 rfl (lv_room (Nat.le_of_ble_eq_true rfl)) dL_list_5 ⟨(Nat.le_of_ble_eq_true rfl), (Nat.le_of_ble_eq_true rfl)⟩) rfl hS hA (fun ce q9 H locs hz1 hk1 hS hce hcv hcl => ?_)
  refine px_catch (name := nIOO) (E := nIOO) hown ⟨0, 10, 13, 20⟩ [⟨0, 10, 17, 13⟩, ⟨0, 10, 21, 15⟩] htb rfl (by decide) (hu _ u454) (va_Nw.use rfl hev.2.2.2.1.1) hce hcv hcl ?_
  refine W.widen (k := 1) (n := 6) (Nat.le_of_ble_eq_true rfl) (Nat.le_of_ble_eq_true rfl) ?_
  refine lv_astore (lv' := [(4, .ref q9), (0, .ref h0), (1, .int c0), (2, .int d0), (3, .ref qo)]) hx hb dL_list_13 hl (by decide) rfl (fun ls hl => ?_)
  refine lv_iconst (v := 1) hx hb dL_list_15 (by decide) ?_
  exact W.iret (v := 1) hx hb hr (fun t ht hW => ⟨⟨1, (), rfl, rfl, trivial⟩, hS.F ht⟩) hS.2.2 dL_list_16
def wk_L_group : List Cond := .codeWith yL_group cL_group 5 (some .int) [(0, 10, 13, 20), (0, 10, 17, 13), (0, 10, 21, 15)] :: wU
set_option maxHeartbeats 4000000 in
set_option maxRecDepth 100000 in
theorem w_L_group (l : Launch) (hst : l.stackTraces = false) (dC : Nat → ClassId) (dI : Nat → Nat → Nat) (h0 sz qo : Nat) (fs : List Value) (c0 d0 : Int32) (hf : xF fs) : Met l yL_group wk_L_group ({ frames := 11, cells := 1, slots := 6, locals := 219 } : Room) (tQ dC dI [(h0, .inr (11, fs))] sz [.ref h0, .int c0, .int d0, .ref qo]) (va_Qi (S := Unit) (fun r _ => r = 1) (fun _ _ => True) (nw sz)) 1 6 (nw sz) := by
  refine px_ofWH (cc := cL_group) (maxL := 5) (ret := (some .int)) (hh := [(0, 10, 13, 20), (0, 10, 17, 13), (0, 10, 21, 15)]) (by decide) rfl ?_
  intro p e s m args below meth c s₁ B hml hv
  obtain ⟨rfl, hsz, hP, hK, hev, hdv, hZ⟩ := hv
  have hx := B.exec
  have hb := B.bytes
  have hr := B.returns
  have hts := atoms_spec (ws := wk_L_group) B.pre
  have hu : ∀ w ∈ wU, w.before ([.ref h0, .int c0, .int d0, .ref qo] : List Value).toArray s = true := fun w h => hts w (List.mem_cons_of_mem _ h)
  have hown : s.vm.findClass RL = some m.cls := findClass_of_methodNamed B.named
  have hlocks := B.notSynchronized
  subst hsz
  have hA : ∀ q : Nat, s.heap.size ≤ q → nw s.heap.size q := fun _ h => h
  have hS : va_S (nw s.heap.size) s.heap s.heap [] := va_S.rf
  have hl := lv_entry ([.ref h0, .int c0, .int d0, .ref qo]) (n := 5) (Nat.le_of_ble_eq_true rfl)
  rw [lg_entry_eq]
  generalize (lg_sl ([.ref h0, .int c0, .int d0, .ref qo]) ++ List.replicate (5 - (lg_sl ([.ref h0, .int c0, .int d0, .ref qo])).length) Slot.unset).toArray = ls at hl ⊢
  have hl : lv_has ls 5 [(0, .ref h0), (1, .int c0), (2, .int d0), (3, .ref qo)] := hl
  have htb := vx_table (x := yL_group) B (hts (.codeWith yL_group cL_group 5 (some .int) [(0, 10, 13, 20), (0, 10, 17, 13), (0, 10, 21, 15)]) List.mem_cons_self)
  refine lv_aload_n hx hb dL_group_0 rfl (lv_at hl 3 rfl) ?_
  refine lv_iconst (v := 0) hx hb dL_group_1 (by decide) ?_
  refine lv_aload_n hx hb dL_group_2 rfl (lv_at hl 0 rfl) ?_
  refine lv_iload_n hx hb dL_group_3 rfl (lv_at hl 1 rfl) ?_
  refine lv_iload_n hx hb dL_group_4 rfl (lv_at hl 2 rfl) ?_
  refine px_call (vx_runV (As := [.int c0, .int d0]) (rest := [.int 0, .ref qo]) ⟨hx, hb, hml, hown, hu⟩ (t_X11_group l hst dC dI h0 _ fs c0 d0 hf) (cwV 2 hu (gV u519 u520 u521 u432 u522) rfl rfl rfl (by decide +kernel) ⟨(Nat.le_of_ble_eq_true rfl), (Nat.le_of_ble_eq_true rfl)⟩) ⟨tQ_blind, va_recv hK hP (ci := 11) (q0 := 0) rfl rfl, tQ_at hP hK hev hdv hZ⟩ rfl rfl hl.1 rfl (lv_room (Nat.le_of_ble_eq_true rfl)) dL_group_5 ⟨(Nat.le_of_ble_eq_true rfl), (Nat.le_of_ble_eq_true rfl)⟩) rfl hS hA (fun ce q9 H locs hz1 hk1 hS hce hcv hcl => ?_)
  refine px_catch (name := nIOO) (E := nIOO) hown ⟨0, 10, 13, 20⟩ [⟨0, 10, 17, 13⟩, ⟨0, 10, 21, 15⟩] htb rfl (by decide) (hu _ u454) (va_Nw.use rfl hev.2.2.2.1.1) hce hcv hcl ?_
  refine W.widen (k := 1) (n := 6) (Nat.le_of_ble_eq_true rfl) (Nat.le_of_ble_eq_true rfl) ?_
  refine lv_astore (lv' := [(4, .ref q9), (0, .ref h0), (1, .int c0), (2, .int d0), (3, .ref qo)]) hx hb dL_group_13 hl (by decide) rfl (fun ls hl => ?_)
  refine lv_iconst (v := 1) hx hb dL_group_15 (by decide) ?_
  exact W.iret (v := 1) hx hb hr (fun t ht hW => ⟨⟨1, (), rfl, rfl, trivial⟩, hS.F ht⟩) hS.2.2 dL_group_16
def wk_L_pair : List Cond := .codeWith yL_pair cL_pair 6 (some .int) [(0, 12, 15, 20), (0, 12, 19, 13)] :: wU
set_option maxHeartbeats 4000000 in
set_option maxRecDepth 100000 in
theorem w_L_pair (l : Launch) (hst : l.stackTraces = false) (dC : Nat → ClassId) (dI : Nat → Nat → Nat) (h0 sz qo : Nat) (fs : List Value) (c0 d0 e0 : Int32) (hf : xF fs) : Met l yL_pair wk_L_pair ({ frames := 9, cells := 1, slots := 6, locals := 178 } : Room) (tQ dC dI [(h0, .inr (11, fs))] sz [.ref h0, .int c0, .int d0, .int e0, .ref qo]) (va_Qi (S := Unit) (fun r _ => r = 1) (fun _ _ => True) (nw sz)) 1 6 (nw sz) := by
  refine px_ofWH (cc := cL_pair) (maxL := 6) (ret := (some .int)) (hh := [(0, 12, 15, 20), (0, 12, 19, 13)]) (by decide) rfl ?_
  intro p e s m args below meth c s₁ B hml hv
  obtain ⟨rfl, hsz, hP, hK, hev, hdv, hZ⟩ := hv
  have hx := B.exec
  have hb := B.bytes
  have hr := B.returns
  have hts := atoms_spec (ws := wk_L_pair) B.pre
  have hu : ∀ w ∈ wU, w.before ([.ref h0, .int c0, .int d0, .int e0, .ref qo] : List Value).toArray s = true := fun w h => hts w (List.mem_cons_of_mem _ h)
  have hown : s.vm.findClass RL = some m.cls := findClass_of_methodNamed B.named
  have hlocks := B.notSynchronized
  subst hsz
  have hA : ∀ q : Nat, s.heap.size ≤ q → nw s.heap.size q := fun _ h => h
  have hS : va_S (nw s.heap.size) s.heap s.heap [] := va_S.rf
  have hl := lv_entry ([.ref h0, .int c0, .int d0, .int e0, .ref qo]) (n := 6) (Nat.le_of_ble_eq_true rfl)
  rw [lg_entry_eq]
  generalize (lg_sl ([.ref h0, .int c0, .int d0, .int e0, .ref qo]) ++ List.replicate (6 - (lg_sl ([.ref h0, .int c0, .int d0, .int e0, .ref qo])).length) Slot.unset).toArray = ls at hl ⊢
  have hl : lv_has ls 6 [(0, .ref h0), (1, .int c0), (2, .int d0), (3, .int e0), (4, .ref qo)] := hl
  have htb := vx_table (x := yL_pair) B (hts (.codeWith yL_pair cL_pair 6 (some .int) [(0, 12, 15, 20), (0, 12, 19, 13)]) List.mem_cons_self)
  refine lv_aload hx hb dL_pair_0 (lv_at hl 4 rfl) ?_
  refine lv_iconst (v := 0) hx hb dL_pair_2 (by decide) ?_
  refine lv_aload_n hx hb dL_pair_3 rfl (lv_at hl 0 rfl) ?_
  refine lv_iload_n hx hb dL_pair_4 rfl (lv_at hl 1 rfl) ?_
  refine lv_iload_n hx hb dL_pair_5 rfl (lv_at hl 2 rfl) ?_
  refine lv_iload_n hx hb dL_pair_6 rfl (lv_at hl 3 rfl) ?_
  refine px_call (vx_runV (As := [.int c0, .int d0, .int e0]) (rest := [.int 0, .ref qo]) ⟨hx, hb, hml, hown, hu⟩ (t_X11_pair l hst dC dI h0 _ fs c0 d0 e0 hf) (cwV 3 hu (gV u523 u524 u525 u432 u526) rfl rfl rfl (by decide +kernel) ⟨(Nat.le_of_ble_eq_true rfl), (Nat.le_of_ble_eq_true rfl)⟩) ⟨tQ_blind, va_recv hK hP (ci := 11) (q0 := 0) rfl rfl, tQ_at hP hK hev hdv hZ⟩ rfl rfl hl.1 rfl (lv_room (Nat.le_of_ble_eq_true rfl)) dL_pair_7 ⟨(Nat.le_of_ble_eq_true rfl), (Nat.le_of_ble_eq_true rfl)⟩) rfl hS hA (fun ce q9 H locs hz1 hk1 hS hce hcv hcl => ?_)
  refine px_catch (name := nIOO) (E := nIOO) hown ⟨0, 12, 15, 20⟩ [⟨0, 12, 19, 13⟩] htb rfl (by decide) (hu _ u454) (va_Nw.use rfl hev.2.2.2.1.1) hce hcv hcl ?_
  refine W.widen (k := 1) (n := 6) (Nat.le_of_ble_eq_true rfl) (Nat.le_of_ble_eq_true rfl) ?_
  refine lv_astore (lv' := [(5, .ref q9), (0, .ref h0), (1, .int c0), (2, .int d0), (3, .int e0), (4, .ref qo)]) hx hb dL_pair_15 hl (by decide) rfl (fun ls hl => ?_)
  refine lv_iconst (v := 1) hx hb dL_pair_17 (by decide) ?_
  exact W.iret (v := 1) hx hb hr (fun t ht hW => ⟨⟨1, (), rfl, rfl, trivial⟩, hS.F ht⟩) hS.2.2 dL_pair_18
def wk_L_polynomial : List Cond := .codeWith yL_polynomial cL_polynomial 5 (some .int) [(0, 10, 13, 20), (0, 10, 17, 13)] :: wU
set_option maxHeartbeats 4000000 in
set_option maxRecDepth 100000 in
theorem w_L_polynomial (l : Launch) (hst : l.stackTraces = false) (dC : Nat → ClassId) (dI : Nat → Nat → Nat) (h0 sz qo : Nat) (fs : List Value) (c0 d0 : Int32) (hf : xF fs) : Met l yL_polynomial wk_L_polynomial ({ frames := 11, cells := 1, slots := 6, locals := 219 } : Room) (tQ dC dI [(h0, .inr (11, fs))] sz [.ref h0, .int c0, .int d0, .ref qo]) (va_Qi (S := Unit) (fun r _ => r = 1) (fun _ _ => True) (nw sz)) 1 6 (nw sz) := by
  refine px_ofWH (cc := cL_polynomial) (maxL := 5) (ret := (some .int)) (hh := [(0, 10, 13, 20), (0, 10, 17, 13)]) (by decide) rfl ?_
  intro p e s m args below meth c s₁ B hml hv
  obtain ⟨rfl, hsz, hP, hK, hev, hdv, hZ⟩ := hv
  have hx := B.exec
  have hb := B.bytes
  have hr := B.returns
  have hts := atoms_spec (ws := wk_L_polynomial) B.pre
  have hu : ∀ w ∈ wU, w.before ([.ref h0, .int c0, .int d0, .ref qo] : List Value).toArray s = true := fun w h => hts w (List.mem_cons_of_mem _ h)
  have hown : s.vm.findClass RL = some m.cls := findClass_of_methodNamed B.named
  have hlocks := B.notSynchronized
  subst hsz
  have hA : ∀ q : Nat, s.heap.size ≤ q → nw s.heap.size q := fun _ h => h
  have hS : va_S (nw s.heap.size) s.heap s.heap [] := va_S.rf
  have hl := lv_entry ([.ref h0, .int c0, .int d0, .ref qo]) (n := 5) (Nat.le_of_ble_eq_true rfl)
  rw [lg_entry_eq]
  generalize (lg_sl ([.ref h0, .int c0, .int d0, .ref qo]) ++ List.replicate (5 - (lg_sl ([.ref h0, .int c0, .int d0, .ref qo])).length) Slot.unset).toArray = ls at hl ⊢
  have hl : lv_has ls 5 [(0, .ref h0), (1, .int c0), (2, .int d0), (3, .ref qo)] := hl
  have htb := vx_table (x := yL_polynomial) B (hts (.codeWith yL_polynomial cL_polynomial 5 (some .int) [(0, 10, 13, 20), (0, 10, 17, 13)]) List.mem_cons_self)
  refine lv_aload_n hx hb dL_polynomial_0 rfl (lv_at hl 3 rfl) ?_
  refine lv_iconst (v := 0) hx hb dL_polynomial_1 (by decide) ?_
  refine lv_aload_n hx hb dL_polynomial_2 rfl (lv_at hl 0 rfl) ?_
  refine lv_iload_n hx hb dL_polynomial_3 rfl (lv_at hl 1 rfl) ?_
  refine lv_iload_n hx hb dL_polynomial_4 rfl (lv_at hl 2 rfl) ?_
  refine px_call (vx_runV (As := [.int c0, .int d0]) (rest := [.int 0, .ref qo]) ⟨hx, hb, hml, hown, hu⟩ (t_X11_polynomial l hst dC dI h0 _ fs c0 d0 hf) (cwV 2 hu (gV u527 u528 u529 u432 u530) rfl rfl rfl (by decide +kernel) ⟨(Nat.le_of_ble_eq_true rfl), (Nat.le_of_ble_eq_true rfl)⟩) ⟨tQ_blind, va_recv hK hP (ci := 11) (q0 := 0) rfl rfl, tQ_at hP hK hev hdv hZ⟩ rfl rfl hl.1 rfl (lv_room (Nat.le_of_ble_eq_true rfl)) dL_polynomial_5 ⟨(Nat.le_of_ble_eq_true rfl), (Nat.le_of_ble_eq_true rfl)⟩) rfl hS hA (fun ce q9 H locs hz1 hk1 hS hce hcv hcl => ?_)
  refine px_catch (name := nIOO) (E := nIOO) hown ⟨0, 10, 13, 20⟩ [⟨0, 10, 17, 13⟩] htb rfl (by decide) (hu _ u454) (va_Nw.use rfl hev.2.2.2.1.1) hce hcv hcl ?_
  refine W.widen (k := 1) (n := 6) (Nat.le_of_ble_eq_true rfl) (Nat.le_of_ble_eq_true rfl) ?_
  refine lv_astore (lv' := [(4, .ref q9), (0, .ref h0), (1, .int c0), (2, .int d0), (3, .ref qo)]) hx hb dL_polynomial_13 hl (by decide) rfl (fun ls hl => ?_)
  refine lv_iconst (v := 1) hx hb dL_polynomial_15 (by decide) ?_
  exact W.iret (v := 1) hx hb hr (fun t ht hW => ⟨⟨1, (), rfl, rfl, trivial⟩, hS.F ht⟩) hS.2.2 dL_polynomial_16
def wk_L_led : List Cond := .codeWith yL_led cL_led 4 (some .int) [(0, 9, 12, 20), (0, 9, 15, 15)] :: wU
set_option maxHeartbeats 4000000 in
set_option maxRecDepth 100000 in
theorem w_L_led (l : Launch) (hst : l.stackTraces = false) (dC : Nat → ClassId) (dI : Nat → Nat → Nat) (h0 sz qo : Nat) (fs : List Value) (c0 : Int32) (hf : xF fs) : Met l yL_led wk_L_led ({ frames := 9, cells := 1, slots := 6, locals := 176 } : Room) (tQ dC dI [(h0, .inr (11, fs))] sz [.ref h0, .int c0, .ref qo]) (va_Qi (S := Unit) (fun r _ => r = 1) (fun _ _ => True) (nw sz)) 1 6 (nw sz) := by
  refine px_ofWH (cc := cL_led) (maxL := 4) (ret := (some .int)) (hh := [(0, 9, 12, 20), (0, 9, 15, 15)]) (by decide) rfl ?_
  intro p e s m args below meth c s₁ B hml hv
  obtain ⟨rfl, hsz, hP, hK, hev, hdv, hZ⟩ := hv
  have hx := B.exec
  have hb := B.bytes
  have hr := B.returns
  have hts := atoms_spec (ws := wk_L_led) B.pre
  have hu : ∀ w ∈ wU, w.before ([.ref h0, .int c0, .ref qo] : List Value).toArray s = true := fun w h => hts w (List.mem_cons_of_mem _ h)
  have hown : s.vm.findClass RL = some m.cls := findClass_of_methodNamed B.named
  have hlocks := B.notSynchronized
  subst hsz
  have hA : ∀ q : Nat, s.heap.size ≤ q → nw s.heap.size q := fun _ h => h
  have hS : va_S (nw s.heap.size) s.heap s.heap [] := va_S.rf
  have hl := lv_entry ([.ref h0, .int c0, .ref qo]) (n := 4) (Nat.le_of_ble_eq_true rfl)
  rw [lg_entry_eq]
  generalize (lg_sl ([.ref h0, .int c0, .ref qo]) ++ List.replicate (4 - (lg_sl ([.ref h0, .int c0, .ref qo])).length) Slot.unset).toArray = ls at hl ⊢
  have hl : lv_has ls 4 [(0, .ref h0), (1, .int c0), (2, .ref qo)] := hl
  have htb := vx_table (x := yL_led) B (hts (.codeWith yL_led cL_led 4 (some .int) [(0, 9, 12, 20), (0, 9, 15, 15)]) List.mem_cons_self)
  refine lv_aload_n hx hb dL_led_0 rfl (lv_at hl 2 rfl) ?_
  refine lv_iconst (v := 0) hx hb dL_led_1 (by decide) ?_
  refine lv_aload_n hx hb dL_led_2 rfl (lv_at hl 0 rfl) ?_
  refine lv_iload_n hx hb dL_led_3 rfl (lv_at hl 1 rfl) ?_
  refine px_call (vx_runV (As := [.int c0]) (rest := [.int 0, .ref qo]) ⟨hx, hb, hml, hown, hu⟩ (t_X11_led l hst dC dI h0 _ fs c0 hf) (cwV 1 hu (gV u531 u532 u533 u432 u534) rfl rfl rfl (by decide +kernel) ⟨(Nat.le_of_ble_eq_true rfl), (Nat.le_of_ble_eq_true rfl)⟩) ⟨tQ_blind, va_recv hK hP (ci := 11) (q0 := 0) rfl rfl, tQ_at hP hK hev hdv hZ⟩ rfl rfl hl.1 rfl (lv_room (Nat.le_of_ble_eq_true rfl)) dL_led_4 ⟨(Nat.le_of_ble_eq_true rfl), (Nat.le_of_ble_eq_true rfl)⟩) rfl hS hA (fun ce q9 H locs hz1 hk1 hS hce hcv hcl => ?_)
  refine px_catch (name := nIOO) (E := nIOO) hown ⟨0, 9, 12, 20⟩ [⟨0, 9, 15, 15⟩] htb rfl (by decide) (hu _ u454) (va_Nw.use rfl hev.2.2.2.1.1) hce hcv hcl ?_
  refine W.widen (k := 1) (n := 6) (Nat.le_of_ble_eq_true rfl) (Nat.le_of_ble_eq_true rfl) ?_
  refine lv_astore_n (lv' := [(3, .ref q9), (0, .ref h0), (1, .int c0), (2, .ref qo)]) hx hb dL_led_12 rfl hl (by decide) rfl (fun ls hl => ?_)
  refine lv_iconst (v := 1) hx hb dL_led_13 (by decide) ?_
  exact W.iret (v := 1) hx hb hr (fun t ht hW => ⟨⟨1, (), rfl, rfl, trivial⟩, hS.F ht⟩) hS.2.2 dL_led_14
def wk_L_through : List Cond := .codeWith yL_through cL_through 5 (some .int) [(0, 10, 13, 20), (0, 10, 17, 15)] :: wU
set_option maxHeartbeats 4000000 in
set_option maxRecDepth 100000 in
theorem w_L_through (l : Launch) (hst : l.stackTraces = false) (dC : Nat → ClassId) (dI : Nat → Nat → Nat) (h0 sz qo : Nat) (fs : List Value) (c0 d0 : Int32) (hf : xF fs) : Met l yL_through wk_L_through ({ frames := 9, cells := 1, slots := 6, locals := 180 } : Room) (tQ dC dI [(h0, .inr (11, fs))] sz [.ref h0, .int c0, .int d0, .ref qo]) (va_Qi (S := Unit) (fun r _ => r = 1) (fun _ _ => True) (nw sz)) 1 6 (nw sz) := by
  refine px_ofWH (cc := cL_through) (maxL := 5) (ret := (some .int)) (hh := [(0, 10, 13, 20), (0, 10, 17, 15)]) (by decide) rfl ?_
  intro p e s m args below meth c s₁ B hml hv
  obtain ⟨rfl, hsz, hP, hK, hev, hdv, hZ⟩ := hv
  have hx := B.exec
  have hb := B.bytes
  have hr := B.returns
  have hts := atoms_spec (ws := wk_L_through) B.pre
  have hu : ∀ w ∈ wU, w.before ([.ref h0, .int c0, .int d0, .ref qo] : List Value).toArray s = true := fun w h => hts w (List.mem_cons_of_mem _ h)
  have hown : s.vm.findClass RL = some m.cls := findClass_of_methodNamed B.named
  have hlocks := B.notSynchronized
  subst hsz
  have hA : ∀ q : Nat, s.heap.size ≤ q → nw s.heap.size q := fun _ h => h
  have hS : va_S (nw s.heap.size) s.heap s.heap [] := va_S.rf
  have hl := lv_entry ([.ref h0, .int c0, .int d0, .ref qo]) (n := 5) (Nat.le_of_ble_eq_true rfl)
  rw [lg_entry_eq]
  generalize (lg_sl ([.ref h0, .int c0, .int d0, .ref qo]) ++ List.replicate (5 - (lg_sl ([.ref h0, .int c0, .int d0, .ref qo])).length) Slot.unset).toArray = ls at hl ⊢
  have hl : lv_has ls 5 [(0, .ref h0), (1, .int c0), (2, .int d0), (3, .ref qo)] := hl
  have htb := vx_table (x := yL_through) B (hts (.codeWith yL_through cL_through 5 (some .int) [(0, 10, 13, 20), (0, 10, 17, 15)]) List.mem_cons_self)
  refine lv_aload_n hx hb dL_through_0 rfl (lv_at hl 3 rfl) ?_
  refine lv_iconst (v := 0) hx hb dL_through_1 (by decide) ?_
  refine lv_aload_n hx hb dL_through_2 rfl (lv_at hl 0 rfl) ?_
  refine lv_iload_n hx hb dL_through_3 rfl (lv_at hl 1 rfl) ?_
  refine lv_iload_n hx hb dL_through_4 rfl (lv_at hl 2 rfl) ?_
  refine px_call (vx_runV (As := [.int c0, .int d0]) (rest := [.int 0, .ref qo]) ⟨hx, hb, hml, hown, hu⟩ (t_X11_through l hst dC dI h0 _ fs c0 d0 hf) (cwV 2 hu (gV u535 u536 u537 u432 u538) rfl rfl rfl (by decide +kernel) ⟨(Nat.le_of_ble_eq_true rfl), (Nat.le_of_ble_eq_true rfl)⟩) ⟨tQ_blind, va_recv hK hP (ci := 11) (q0 := 0) rfl rfl, tQ_at hP hK hev hdv hZ⟩ rfl rfl hl.1 rfl (lv_room (Nat.le_of_ble_eq_true rfl)) dL_through_5 ⟨(Nat.le_of_ble_eq_true rfl), (Nat.le_of_ble_eq_true rfl)⟩) rfl hS hA (fun ce q9 H locs hz1 hk1 hS hce hcv hcl => ?_)
  refine px_catch (name := nIOO) (E := nIOO) hown ⟨0, 10, 13, 20⟩ [⟨0, 10, 17, 15⟩] htb rfl (by decide) (hu _ u454) (va_Nw.use rfl hev.2.2.2.1.1) hce hcv hcl ?_
  refine W.widen (k := 1) (n := 6) (Nat.le_of_ble_eq_true rfl) (Nat.le_of_ble_eq_true rfl) ?_
  refine lv_astore (lv' := [(4, .ref q9), (0, .ref h0), (1, .int c0), (2, .int d0), (3, .ref qo)]) hx hb dL_through_13 hl (by decide) rfl (fun ls hl => ?_)
  refine lv_iconst (v := 1) hx hb dL_through_15 (by decide) ?_
  exact W.iret (v := 1) hx hb hr (fun t ht hW => ⟨⟨1, (), rfl, rfl, trivial⟩, hS.F ht⟩) hS.2.2 dL_through_16
def wk_L_found : List Cond := .codeWith yL_found cL_found 5 (some .int) [(0, 9, 12, 20), (0, 9, 16, 13)] :: wU
set_option maxHeartbeats 4000000 in
set_option maxRecDepth 100000 in
theorem w_L_found (l : Launch) (hst : l.stackTraces = false) (dC : Nat → ClassId) (dI : Nat → Nat → Nat) (h0 sz qo : Nat) (fs : List Value) (f8 : List Value) (q8 : Nat) (c0 d0 : Int32) (hf : xF fs) (hq8 : fs[10]? = some (.ref q8)) (hf8 : f8[3]? = some (.int 0)) : Met l yL_found wk_L_found ({ frames := 8, cells := 1, slots := 6, locals := 152 } : Room) (tQ dC dI [(h0, .inr (11, fs)), (q8, .inr (8, f8))] sz [.ref h0, .int c0, .int d0, .ref qo]) (va_Qi (S := Unit) (fun r _ => r = 1) (fun _ _ => True) (nw sz)) 1 6 (nw sz) := by
  refine px_ofWH (cc := cL_found) (maxL := 5) (ret := (some .int)) (hh := [(0, 9, 12, 20), (0, 9, 16, 13)]) (by decide) rfl ?_
  intro p e s m args below meth c s₁ B hml hv
  obtain ⟨rfl, hsz, hP, hK, hev, hdv, hZ⟩ := hv
  have hx := B.exec
  have hb := B.bytes
  have hr := B.returns
  have hts := atoms_spec (ws := wk_L_found) B.pre
  have hu : ∀ w ∈ wU, w.before ([.ref h0, .int c0, .int d0, .ref qo] : List Value).toArray s = true := fun w h => hts w (List.mem_cons_of_mem _ h)
  have hown : s.vm.findClass RL = some m.cls := findClass_of_methodNamed B.named
  have hlocks := B.notSynchronized
  subst hsz
  have hA : ∀ q : Nat, s.heap.size ≤ q → nw s.heap.size q := fun _ h => h
  have hS : va_S (nw s.heap.size) s.heap s.heap [] := va_S.rf
  have hl := lv_entry ([.ref h0, .int c0, .int d0, .ref qo]) (n := 5) (Nat.le_of_ble_eq_true rfl)
  rw [lg_entry_eq]
  generalize (lg_sl ([.ref h0, .int c0, .int d0, .ref qo]) ++ List.replicate (5 - (lg_sl ([.ref h0, .int c0, .int d0, .ref qo])).length) Slot.unset).toArray = ls at hl ⊢
  have hl : lv_has ls 5 [(0, .ref h0), (1, .int c0), (2, .int d0), (3, .ref qo)] := hl
  have htb := vx_table (x := yL_found) B (hts (.codeWith yL_found cL_found 5 (some .int) [(0, 9, 12, 20), (0, 9, 16, 13)]) List.mem_cons_self)
  refine lv_aload_n hx hb dL_found_0 rfl (lv_at hl 3 rfl) ?_
  refine lv_iconst (v := 0) hx hb dL_found_1 (by decide) ?_
  refine lv_aload_n hx hb dL_found_2 rfl (lv_at hl 0 rfl) ?_
  refine lv_iload_n hx hb dL_found_3 rfl (lv_at hl 1 rfl) ?_
  refine lv_iload_n hx hb dL_found_4 rfl (lv_at hl 2 rfl) ?_
  refine px_call (vx_runV (As := [.int c0, .int d0]) (rest := [.int 0, .ref qo]) ⟨hx, hb, hml, hown, hu⟩ (t_X11_found l hst dC dI h0 _ fs f8 q8 c0 d0 hf hq8 hf8) (cwV 2 hu (gV u539 u540 u541 u432 u542) rfl rfl rfl (by decide +kernel) ⟨(Nat.le_of_ble_eq_true rfl), (Nat.le_of_ble_eq_true rfl)⟩) ⟨tQ_blind, va_recv hK hP (ci := 11) (q0 := 0) rfl rfl, tQ_at hP hK hev hdv hZ⟩ rfl rfl hl.1 rfl (lv_room (Nat.le_of_ble_eq_true rfl)) dL_found_5 ⟨(Nat.le_of_ble_eq_true rfl), (Nat.le_of_ble_eq_true rfl)⟩) rfl hS hA (fun ce q9 H locs hz1 hk1 hS hce hcv hcl => ?_)
  refine px_catch (name := nIOO) (E := nIOO) hown ⟨0, 9, 12, 20⟩ [⟨0, 9, 16, 13⟩] htb rfl (by decide) (hu _ u454) (va_Nw.use rfl hev.2.2.2.1.1) hce hcv hcl ?_
  refine W.widen (k := 1) (n := 6) (Nat.le_of_ble_eq_true rfl) (Nat.le_of_ble_eq_true rfl) ?_
  refine lv_astore (lv' := [(4, .ref q9), (0, .ref h0), (1, .int c0), (2, .int d0), (3, .ref qo)]) hx hb dL_found_12 hl (by decide) rfl (fun ls hl => ?_)
  refine lv_iconst (v := 1) hx hb dL_found_14 (by decide) ?_
  exact W.iret (v := 1) hx hb hr (fun t ht hW => ⟨⟨1, (), rfl, rfl, trivial⟩, hS.F ht⟩) hS.2.2 dL_found_15
