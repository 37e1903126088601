def mF (fs : List Value) : Prop := fs[12]? = some (.int 0) ∧ fs[22]? = some (.int 0) ∧ fs[34]? = some (.int 0) ∧ fs[42]? = some (.int 0) ∧ fs[65]? = some (.int 0) ∧ fs.length = 74
def cnt (w : Int32) : Int32 := if w = 0 ∨ w = 1 ∨ w = 2 then 0 else -1
theorem dX15_about_0 : decode cX15_about 0 = .ok (.aload_n 0, 1) := by decide +kernel
theorem dX15_about_1 : decode cX15_about 1 = .ok (.iload_n 1, 1) := by decide +kernel
theorem dX15_about_2 : decode cX15_about 2 = .ok (.invokevirtual 308, 3) := by decide +kernel
theorem dX15_about_5 : decode cX15_about 5 = .ok (.ifCond .eq 24, 3) := by decide +kernel
theorem dX15_about_29 : decode cX15_about 29 = .ok (.lconst 0, 1) := by decide +kernel
theorem dX15_about_30 : decode cX15_about 30 = .ok (.lreturn, 1) := by decide +kernel
theorem dX15_add_0 : decode cX15_add 0 = .ok (.aload_n 0, 1) := by decide +kernel
theorem dX15_add_1 : decode cX15_add 1 = .ok (.iload_n 1, 1) := by decide +kernel
theorem dX15_add_2 : decode cX15_add 2 = .ok (.invokevirtual 419, 3) := by decide +kernel
theorem dX15_add_5 : decode cX15_add 5 = .ok (.ifCond .eq 11, 3) := by decide +kernel
theorem dX15_add_16 : decode cX15_add 16 = .ok (.iconst 0, 1) := by decide +kernel
theorem dX15_add_17 : decode cX15_add 17 = .ok (.ireturn, 1) := by decide +kernel
theorem dX15_back_0 : decode cX15_back 0 = .ok (.aload_n 0, 1) := by decide +kernel
theorem dX15_back_1 : decode cX15_back 1 = .ok (.iload_n 1, 1) := by decide +kernel
theorem dX15_back_2 : decode cX15_back 2 = .ok (.invokevirtual 308, 3) := by decide +kernel
theorem dX15_back_5 : decode cX15_back 5 = .ok (.ifCond .eq 24, 3) := by decide +kernel
theorem dX15_back_29 : decode cX15_back 29 = .ok (.iconst 0, 1) := by decide +kernel
theorem dX15_back_30 : decode cX15_back 30 = .ok (.ireturn, 1) := by decide +kernel
theorem dX15_backAt_0 : decode cX15_backAt 0 = .ok (.aload_n 0, 1) := by decide +kernel
theorem dX15_backAt_1 : decode cX15_backAt 1 = .ok (.iload_n 1, 1) := by decide +kernel
theorem dX15_backAt_2 : decode cX15_backAt 2 = .ok (.invokevirtual 308, 3) := by decide +kernel
theorem dX15_backAt_5 : decode cX15_backAt 5 = .ok (.ifCond .eq 24, 3) := by decide +kernel
theorem dX15_backAt_29 : decode cX15_backAt 29 = .ok (.iconst 0, 1) := by decide +kernel
theorem dX15_backAt_30 : decode cX15_backAt 30 = .ok (.ireturn, 1) := by decide +kernel
theorem dX15_coefficient_0 : decode cX15_coefficient 0 = .ok (.aload_n 0, 1) := by decide +kernel
theorem dX15_coefficient_1 : decode cX15_coefficient 1 = .ok (.iconst 0, 1) := by decide +kernel
theorem dX15_coefficient_2 : decode cX15_coefficient 2 = .ok (.putfield 209, 3) := by decide +kernel
theorem dX15_coefficient_5 : decode cX15_coefficient 5 = .ok (.aload_n 0, 1) := by decide +kernel
theorem dX15_coefficient_6 : decode cX15_coefficient 6 = .ok (.getfield 548, 3) := by decide +kernel
theorem dX15_coefficient_9 : decode cX15_coefficient 9 = .ok (.ifCond .eq 14, 3) := by decide +kernel
theorem dX15_coefficient_23 : decode cX15_coefficient 23 = .ok (.iconst 0, 1) := by decide +kernel
theorem dX15_coefficient_24 : decode cX15_coefficient 24 = .ok (.goto 19, 3) := by decide +kernel
theorem dX15_coefficient_43 : decode cX15_coefficient 43 = .ok (.ireturn, 1) := by decide +kernel
theorem dX15_count_0 : decode cX15_count 0 = .ok (.aload_n 0, 1) := by decide +kernel
theorem dX15_count_1 : decode cX15_count 1 = .ok (.iload_n 1, 1) := by decide +kernel
theorem dX15_count_2 : decode cX15_count 2 = .ok (.ldc_w 307, 3) := by decide +kernel
theorem dX15_count_5 : decode cX15_count 5 = .ok (.iconst 0, 1) := by decide +kernel
theorem dX15_count_6 : decode cX15_count 6 = .ok (.invokevirtual 476, 3) := by decide +kernel
theorem dX15_count_9 : decode cX15_count 9 = .ok (.ifCond .eq 11, 3) := by decide +kernel
theorem dX15_count_20 : decode cX15_count 20 = .ok (.iconst 0, 1) := by decide +kernel
theorem dX15_count_21 : decode cX15_count 21 = .ok (.ireturn, 1) := by decide +kernel
theorem dX15_counted_0 : decode cX15_counted 0 = .ok (.aload_n 0, 1) := by decide +kernel
theorem dX15_counted_1 : decode cX15_counted 1 = .ok (.iconst 0, 1) := by decide +kernel
theorem dX15_counted_2 : decode cX15_counted 2 = .ok (.putfield 209, 3) := by decide +kernel
theorem dX15_counted_5 : decode cX15_counted 5 = .ok (.iload_n 1, 1) := by decide +kernel
theorem dX15_counted_6 : decode cX15_counted 6 = .ok (.ifCond .ne 10, 3) := by decide +kernel
theorem dX15_counted_9 : decode cX15_counted 9 = .ok (.aload_n 0, 1) := by decide +kernel
theorem dX15_counted_10 : decode cX15_counted 10 = .ok (.getfield 284, 3) := by decide +kernel
theorem dX15_counted_13 : decode cX15_counted 13 = .ok (.goto 28, 3) := by decide +kernel
theorem dX15_counted_16 : decode cX15_counted 16 = .ok (.iload_n 1, 1) := by decide +kernel
theorem dX15_counted_17 : decode cX15_counted 17 = .ok (.iconst 1, 1) := by decide +kernel
theorem dX15_counted_18 : decode cX15_counted 18 = .ok (.if_icmp .ne 10, 3) := by decide +kernel
theorem dX15_counted_21 : decode cX15_counted 21 = .ok (.aload_n 0, 1) := by decide +kernel
theorem dX15_counted_22 : decode cX15_counted 22 = .ok (.getfield 355, 3) := by decide +kernel
theorem dX15_counted_25 : decode cX15_counted 25 = .ok (.goto 16, 3) := by decide +kernel
theorem dX15_counted_28 : decode cX15_counted 28 = .ok (.iload_n 1, 1) := by decide +kernel
theorem dX15_counted_29 : decode cX15_counted 29 = .ok (.iconst 2, 1) := by decide +kernel
theorem dX15_counted_30 : decode cX15_counted 30 = .ok (.if_icmp .ne 10, 3) := by decide +kernel
theorem dX15_counted_33 : decode cX15_counted 33 = .ok (.aload_n 0, 1) := by decide +kernel
theorem dX15_counted_34 : decode cX15_counted 34 = .ok (.getfield 433, 3) := by decide +kernel
theorem dX15_counted_37 : decode cX15_counted 37 = .ok (.goto 4, 3) := by decide +kernel
theorem dX15_counted_40 : decode cX15_counted 40 = .ok (.iconst (-1), 1) := by decide +kernel
theorem dX15_counted_41 : decode cX15_counted 41 = .ok (.ireturn, 1) := by decide +kernel
theorem dX15_far_0 : decode cX15_far 0 = .ok (.aload_n 0, 1) := by decide +kernel
theorem dX15_far_1 : decode cX15_far 1 = .ok (.iload_n 1, 1) := by decide +kernel
theorem dX15_far_2 : decode cX15_far 2 = .ok (.invokevirtual 308, 3) := by decide +kernel
theorem dX15_far_5 : decode cX15_far 5 = .ok (.ifCond .ne 5, 3) := by decide +kernel
theorem dX15_far_8 : decode cX15_far 8 = .ok (.iconst 0, 1) := by decide +kernel
theorem dX15_far_9 : decode cX15_far 9 = .ok (.ireturn, 1) := by decide +kernel
theorem dX15_found_0 : decode cX15_found 0 = .ok (.aload_n 0, 1) := by decide +kernel
theorem dX15_found_1 : decode cX15_found 1 = .ok (.iload_n 1, 1) := by decide +kernel
theorem dX15_found_2 : decode cX15_found 2 = .ok (.ifCond .lt 11, 3) := by decide +kernel
theorem dX15_found_5 : decode cX15_found 5 = .ok (.iload_n 1, 1) := by decide +kernel
theorem dX15_found_6 : decode cX15_found 6 = .ok (.aload_n 0, 1) := by decide +kernel
theorem dX15_found_7 : decode cX15_found 7 = .ok (.getfield 466, 3) := by decide +kernel
theorem dX15_found_10 : decode cX15_found 10 = .ok (.if_icmp .lt 7, 3) := by decide +kernel
theorem dX15_found_13 : decode cX15_found 13 = .ok (.iconst 1, 1) := by decide +kernel
theorem dX15_found_14 : decode cX15_found 14 = .ok (.goto 17, 3) := by decide +kernel
theorem dX15_found_31 : decode cX15_found 31 = .ok (.putfield 209, 3) := by decide +kernel
theorem dX15_found_34 : decode cX15_found 34 = .ok (.aload_n 0, 1) := by decide +kernel
theorem dX15_found_35 : decode cX15_found 35 = .ok (.getfield 209, 3) := by decide +kernel
theorem dX15_found_38 : decode cX15_found 38 = .ok (.ifCond .le 5, 3) := by decide +kernel
theorem dX15_found_41 : decode cX15_found 41 = .ok (.lconst 0, 1) := by decide +kernel
theorem dX15_found_42 : decode cX15_found 42 = .ok (.lreturn, 1) := by decide +kernel
theorem dX15_group_0 : decode cX15_group 0 = .ok (.aload_n 0, 1) := by decide +kernel
theorem dX15_group_1 : decode cX15_group 1 = .ok (.iload_n 1, 1) := by decide +kernel
theorem dX15_group_2 : decode cX15_group 2 = .ok (.sipush 2000, 3) := by decide +kernel
theorem dX15_group_5 : decode cX15_group 5 = .ok (.iload_n 2, 1) := by decide +kernel
theorem dX15_group_6 : decode cX15_group 6 = .ok (.ifCond .lt 8, 3) := by decide +kernel
theorem dX15_group_9 : decode cX15_group 9 = .ok (.iload_n 2, 1) := by decide +kernel
theorem dX15_group_10 : decode cX15_group 10 = .ok (.iconst 3, 1) := by decide +kernel
theorem dX15_group_11 : decode cX15_group 11 = .ok (.if_icmp .le 7, 3) := by decide +kernel
theorem dX15_group_14 : decode cX15_group 14 = .ok (.iconst 1, 1) := by decide +kernel
theorem dX15_group_15 : decode cX15_group 15 = .ok (.goto 4, 3) := by decide +kernel
theorem dX15_group_18 : decode cX15_group 18 = .ok (.iconst 0, 1) := by decide +kernel
theorem dX15_group_19 : decode cX15_group 19 = .ok (.invokevirtual 476, 3) := by decide +kernel
theorem dX15_group_22 : decode cX15_group 22 = .ok (.ifCond .ne 5, 3) := by decide +kernel
theorem dX15_group_25 : decode cX15_group 25 = .ok (.iconst 0, 1) := by decide +kernel
theorem dX15_group_26 : decode cX15_group 26 = .ok (.ireturn, 1) := by decide +kernel
theorem dX15_isCubic_0 : decode cX15_isCubic 0 = .ok (.aload_n 0, 1) := by decide +kernel
theorem dX15_isCubic_1 : decode cX15_isCubic 1 = .ok (.iload_n 1, 1) := by decide +kernel
theorem dX15_isCubic_2 : decode cX15_isCubic 2 = .ok (.ifCond .lt 11, 3) := by decide +kernel
theorem dX15_isCubic_5 : decode cX15_isCubic 5 = .ok (.iload_n 1, 1) := by decide +kernel
theorem dX15_isCubic_6 : decode cX15_isCubic 6 = .ok (.aload_n 0, 1) := by decide +kernel
theorem dX15_isCubic_7 : decode cX15_isCubic 7 = .ok (.getfield 284, 3) := by decide +kernel
theorem dX15_isCubic_10 : decode cX15_isCubic 10 = .ok (.if_icmp .lt 7, 3) := by decide +kernel
theorem dX15_isCubic_13 : decode cX15_isCubic 13 = .ok (.iconst 1, 1) := by decide +kernel
theorem dX15_isCubic_14 : decode cX15_isCubic 14 = .ok (.goto 4, 3) := by decide +kernel
theorem dX15_isCubic_18 : decode cX15_isCubic 18 = .ok (.putfield 209, 3) := by decide +kernel
theorem dX15_isCubic_21 : decode cX15_isCubic 21 = .ok (.aload_n 0, 1) := by decide +kernel
theorem dX15_isCubic_22 : decode cX15_isCubic 22 = .ok (.getfield 209, 3) := by decide +kernel
theorem dX15_isCubic_25 : decode cX15_isCubic 25 = .ok (.ifCond .ne 7, 3) := by decide +kernel
theorem dX15_isCubic_32 : decode cX15_isCubic 32 = .ok (.iconst 0, 1) := by decide +kernel
theorem dX15_isCubic_33 : decode cX15_isCubic 33 = .ok (.ireturn, 1) := by decide +kernel
theorem dX15_isPoint_0 : decode cX15_isPoint 0 = .ok (.aload_n 0, 1) := by decide +kernel
theorem dX15_isPoint_1 : decode cX15_isPoint 1 = .ok (.iload_n 1, 1) := by decide +kernel
theorem dX15_isPoint_2 : decode cX15_isPoint 2 = .ok (.ifCond .lt 11, 3) := by decide +kernel
theorem dX15_isPoint_5 : decode cX15_isPoint 5 = .ok (.iload_n 1, 1) := by decide +kernel
theorem dX15_isPoint_6 : decode cX15_isPoint 6 = .ok (.aload_n 0, 1) := by decide +kernel
theorem dX15_isPoint_7 : decode cX15_isPoint 7 = .ok (.getfield 355, 3) := by decide +kernel
theorem dX15_isPoint_10 : decode cX15_isPoint 10 = .ok (.if_icmp .lt 7, 3) := by decide +kernel
theorem dX15_isPoint_13 : decode cX15_isPoint 13 = .ok (.iconst 1, 1) := by decide +kernel
theorem dX15_isPoint_14 : decode cX15_isPoint 14 = .ok (.goto 4, 3) := by decide +kernel
theorem dX15_isPoint_18 : decode cX15_isPoint 18 = .ok (.putfield 209, 3) := by decide +kernel
theorem dX15_isPoint_21 : decode cX15_isPoint 21 = .ok (.aload_n 0, 1) := by decide +kernel
theorem dX15_isPoint_22 : decode cX15_isPoint 22 = .ok (.getfield 209, 3) := by decide +kernel
theorem dX15_isPoint_25 : decode cX15_isPoint 25 = .ok (.ifCond .ne 7, 3) := by decide +kernel
theorem dX15_isPoint_32 : decode cX15_isPoint 32 = .ok (.iconst 0, 1) := by decide +kernel
theorem dX15_isPoint_33 : decode cX15_isPoint 33 = .ok (.ireturn, 1) := by decide +kernel
theorem dX15_isRest_0 : decode cX15_isRest 0 = .ok (.aload_n 0, 1) := by decide +kernel
theorem dX15_isRest_1 : decode cX15_isRest 1 = .ok (.iload_n 1, 1) := by decide +kernel
theorem dX15_isRest_2 : decode cX15_isRest 2 = .ok (.invokevirtual 308, 3) := by decide +kernel
theorem dX15_isRest_5 : decode cX15_isRest 5 = .ok (.ifCond .eq 42, 3) := by decide +kernel
theorem dX15_isRest_47 : decode cX15_isRest 47 = .ok (.iconst 0, 1) := by decide +kernel
theorem dX15_isRest_48 : decode cX15_isRest 48 = .ok (.ireturn, 1) := by decide +kernel
theorem dX15_led_0 : decode cX15_led 0 = .ok (.aload_n 0, 1) := by decide +kernel
theorem dX15_led_1 : decode cX15_led 1 = .ok (.iload_n 1, 1) := by decide +kernel
theorem dX15_led_2 : decode cX15_led 2 = .ok (.invokevirtual 419, 3) := by decide +kernel
theorem dX15_led_5 : decode cX15_led 5 = .ok (.ifCond .ne 5, 3) := by decide +kernel
theorem dX15_led_8 : decode cX15_led 8 = .ok (.iconst 0, 1) := by decide +kernel
theorem dX15_led_9 : decode cX15_led 9 = .ok (.ireturn, 1) := by decide +kernel
theorem dX15_list_0 : decode cX15_list 0 = .ok (.aload_n 0, 1) := by decide +kernel
theorem dX15_list_1 : decode cX15_list 1 = .ok (.iload_n 1, 1) := by decide +kernel
theorem dX15_list_2 : decode cX15_list 2 = .ok (.sipush 2000, 3) := by decide +kernel
theorem dX15_list_5 : decode cX15_list 5 = .ok (.iconst 0, 1) := by decide +kernel
theorem dX15_list_6 : decode cX15_list 6 = .ok (.invokevirtual 476, 3) := by decide +kernel
theorem dX15_list_9 : decode cX15_list 9 = .ok (.ifCond .ne 5, 3) := by decide +kernel
theorem dX15_list_12 : decode cX15_list 12 = .ok (.iconst 0, 1) := by decide +kernel
theorem dX15_list_13 : decode cX15_list 13 = .ok (.ireturn, 1) := by decide +kernel
theorem dX15_mirror_0 : decode cX15_mirror 0 = .ok (.aload_n 0, 1) := by decide +kernel
theorem dX15_mirror_1 : decode cX15_mirror 1 = .ok (.iload_n 1, 1) := by decide +kernel
theorem dX15_mirror_2 : decode cX15_mirror 2 = .ok (.invokevirtual 419, 3) := by decide +kernel
theorem dX15_mirror_5 : decode cX15_mirror 5 = .ok (.ifCond .ne 5, 3) := by decide +kernel
theorem dX15_mirror_8 : decode cX15_mirror 8 = .ok (.iconst 0, 1) := by decide +kernel
theorem dX15_mirror_9 : decode cX15_mirror 9 = .ok (.ireturn, 1) := by decide +kernel
theorem dX15_octet_0 : decode cX15_octet 0 = .ok (.aload_n 0, 1) := by decide +kernel
theorem dX15_octet_1 : decode cX15_octet 1 = .ok (.iconst 0, 1) := by decide +kernel
theorem dX15_octet_2 : decode cX15_octet 2 = .ok (.putfield 209, 3) := by decide +kernel
theorem dX15_octet_5 : decode cX15_octet 5 = .ok (.iload_n 1, 1) := by decide +kernel
theorem dX15_octet_6 : decode cX15_octet 6 = .ok (.ifCond .lt 20, 3) := by decide +kernel
theorem dX15_octet_9 : decode cX15_octet 9 = .ok (.iload_n 1, 1) := by decide +kernel
theorem dX15_octet_10 : decode cX15_octet 10 = .ok (.aload_n 0, 1) := by decide +kernel
theorem dX15_octet_11 : decode cX15_octet 11 = .ok (.getfield 433, 3) := by decide +kernel
theorem dX15_octet_14 : decode cX15_octet 14 = .ok (.if_icmp .ge 12, 3) := by decide +kernel
theorem dX15_octet_26 : decode cX15_octet 26 = .ok (.iconst (-1), 1) := by decide +kernel
theorem dX15_octet_27 : decode cX15_octet 27 = .ok (.ireturn, 1) := by decide +kernel
theorem dX15_order_0 : decode cX15_order 0 = .ok (.aload_n 0, 1) := by decide +kernel
theorem dX15_order_1 : decode cX15_order 1 = .ok (.iload_n 1, 1) := by decide +kernel
theorem dX15_order_2 : decode cX15_order 2 = .ok (.invokevirtual 419, 3) := by decide +kernel
theorem dX15_order_5 : decode cX15_order 5 = .ok (.ifCond .ne 5, 3) := by decide +kernel
theorem dX15_order_8 : decode cX15_order 8 = .ok (.iconst 0, 1) := by decide +kernel
theorem dX15_order_9 : decode cX15_order 9 = .ok (.ireturn, 1) := by decide +kernel
theorem dX15_over_0 : decode cX15_over 0 = .ok (.aload_n 0, 1) := by decide +kernel
theorem dX15_over_1 : decode cX15_over 1 = .ok (.iload_n 1, 1) := by decide +kernel
theorem dX15_over_2 : decode cX15_over 2 = .ok (.ldc_w 307, 3) := by decide +kernel
theorem dX15_over_5 : decode cX15_over 5 = .ok (.iload_n 2, 1) := by decide +kernel
theorem dX15_over_6 : decode cX15_over 6 = .ok (.iconst 1, 1) := by decide +kernel
theorem dX15_over_7 : decode cX15_over 7 = .ok (.if_icmp .lt 8, 3) := by decide +kernel
theorem dX15_over_10 : decode cX15_over 10 = .ok (.iload_n 2, 1) := by decide +kernel
theorem dX15_over_11 : decode cX15_over 11 = .ok (.iconst 3, 1) := by decide +kernel
theorem dX15_over_12 : decode cX15_over 12 = .ok (.if_icmp .le 7, 3) := by decide +kernel
theorem dX15_over_15 : decode cX15_over 15 = .ok (.iconst 1, 1) := by decide +kernel
theorem dX15_over_16 : decode cX15_over 16 = .ok (.goto 4, 3) := by decide +kernel
theorem dX15_over_19 : decode cX15_over 19 = .ok (.iconst 0, 1) := by decide +kernel
theorem dX15_over_20 : decode cX15_over 20 = .ok (.invokevirtual 476, 3) := by decide +kernel
theorem dX15_over_23 : decode cX15_over 23 = .ok (.ifCond .ne 5, 3) := by decide +kernel
theorem dX15_over_26 : decode cX15_over 26 = .ok (.lconst 0, 1) := by decide +kernel
theorem dX15_over_27 : decode cX15_over 27 = .ok (.lreturn, 1) := by decide +kernel
theorem dX15_pair_0 : decode cX15_pair 0 = .ok (.aload_n 0, 1) := by decide +kernel
theorem dX15_pair_1 : decode cX15_pair 1 = .ok (.iload_n 1, 1) := by decide +kernel
theorem dX15_pair_2 : decode cX15_pair 2 = .ok (.invokevirtual 419, 3) := by decide +kernel
theorem dX15_pair_5 : decode cX15_pair 5 = .ok (.ifCond .eq 11, 3) := by decide +kernel
theorem dX15_pair_16 : decode cX15_pair 16 = .ok (.iconst 0, 1) := by decide +kernel
theorem dX15_pair_17 : decode cX15_pair 17 = .ok (.ireturn, 1) := by decide +kernel
theorem dX15_point_0 : decode cX15_point 0 = .ok (.aload_n 0, 1) := by decide +kernel
theorem dX15_point_1 : decode cX15_point 1 = .ok (.iload_n 1, 1) := by decide +kernel
theorem dX15_point_2 : decode cX15_point 2 = .ok (.invokevirtual 308, 3) := by decide +kernel
theorem dX15_point_5 : decode cX15_point 5 = .ok (.ifCond .ne 5, 3) := by decide +kernel
theorem dX15_point_8 : decode cX15_point 8 = .ok (.iconst 0, 1) := by decide +kernel
theorem dX15_point_9 : decode cX15_point 9 = .ok (.ireturn, 1) := by decide +kernel
theorem dX15_polynomial_0 : decode cX15_polynomial 0 = .ok (.aload_n 0, 1) := by decide +kernel
theorem dX15_polynomial_1 : decode cX15_polynomial 1 = .ok (.iload_n 1, 1) := by decide +kernel
theorem dX15_polynomial_2 : decode cX15_polynomial 2 = .ok (.sipush 2000, 3) := by decide +kernel
theorem dX15_polynomial_5 : decode cX15_polynomial 5 = .ok (.iload_n 2, 1) := by decide +kernel
theorem dX15_polynomial_6 : decode cX15_polynomial 6 = .ok (.iconst 1, 1) := by decide +kernel
theorem dX15_polynomial_7 : decode cX15_polynomial 7 = .ok (.if_icmp .lt 9, 3) := by decide +kernel
theorem dX15_polynomial_10 : decode cX15_polynomial 10 = .ok (.iload_n 2, 1) := by decide +kernel
theorem dX15_polynomial_11 : decode cX15_polynomial 11 = .ok (.bipush 11, 2) := by decide +kernel
theorem dX15_polynomial_13 : decode cX15_polynomial 13 = .ok (.if_icmp .le 7, 3) := by decide +kernel
theorem dX15_polynomial_16 : decode cX15_polynomial 16 = .ok (.iconst 1, 1) := by decide +kernel
theorem dX15_polynomial_17 : decode cX15_polynomial 17 = .ok (.goto 4, 3) := by decide +kernel
theorem dX15_polynomial_20 : decode cX15_polynomial 20 = .ok (.iconst 0, 1) := by decide +kernel
theorem dX15_polynomial_21 : decode cX15_polynomial 21 = .ok (.invokevirtual 476, 3) := by decide +kernel
theorem dX15_polynomial_24 : decode cX15_polynomial 24 = .ok (.ifCond .ne 5, 3) := by decide +kernel
theorem dX15_polynomial_27 : decode cX15_polynomial 27 = .ok (.iconst 0, 1) := by decide +kernel
theorem dX15_polynomial_28 : decode cX15_polynomial 28 = .ok (.ireturn, 1) := by decide +kernel
theorem dX15_print_0 : decode cX15_print 0 = .ok (.aload_n 0, 1) := by decide +kernel
theorem dX15_print_1 : decode cX15_print 1 = .ok (.iload_n 1, 1) := by decide +kernel
theorem dX15_print_2 : decode cX15_print 2 = .ok (.invokevirtual 419, 3) := by decide +kernel
theorem dX15_print_5 : decode cX15_print 5 = .ok (.ifCond .eq 24, 3) := by decide +kernel
theorem dX15_print_29 : decode cX15_print 29 = .ok (.iconst 0, 1) := by decide +kernel
theorem dX15_print_30 : decode cX15_print 30 = .ok (.ireturn, 1) := by decide +kernel
theorem dX15_rest_0 : decode cX15_rest 0 = .ok (.aload_n 0, 1) := by decide +kernel
theorem dX15_rest_1 : decode cX15_rest 1 = .ok (.iload_n 1, 1) := by decide +kernel
theorem dX15_rest_2 : decode cX15_rest 2 = .ok (.invokevirtual 308, 3) := by decide +kernel
theorem dX15_rest_5 : decode cX15_rest 5 = .ok (.ifCond .eq 31, 3) := by decide +kernel
theorem dX15_rest_36 : decode cX15_rest 36 = .ok (.iconst 0, 1) := by decide +kernel
theorem dX15_rest_37 : decode cX15_rest 37 = .ok (.ireturn, 1) := by decide +kernel
theorem dX15_root_0 : decode cX15_root 0 = .ok (.aload_n 0, 1) := by decide +kernel
theorem dX15_root_1 : decode cX15_root 1 = .ok (.iconst 0, 1) := by decide +kernel
theorem dX15_root_2 : decode cX15_root 2 = .ok (.putfield 209, 3) := by decide +kernel
theorem dX15_root_5 : decode cX15_root 5 = .ok (.aload_n 0, 1) := by decide +kernel
theorem dX15_root_6 : decode cX15_root 6 = .ok (.getfield 548, 3) := by decide +kernel
theorem dX15_root_9 : decode cX15_root 9 = .ok (.ifCond .ne 7, 3) := by decide +kernel
theorem dX15_root_12 : decode cX15_root 12 = .ok (.iconst (-1), 1) := by decide +kernel
theorem dX15_root_13 : decode cX15_root 13 = .ok (.goto 7, 3) := by decide +kernel
theorem dX15_root_20 : decode cX15_root 20 = .ok (.istore_n 2, 1) := by decide +kernel
theorem dX15_root_21 : decode cX15_root 21 = .ok (.iload_n 2, 1) := by decide +kernel
theorem dX15_root_22 : decode cX15_root 22 = .ok (.ifCond .lt 7, 3) := by decide +kernel
theorem dX15_root_29 : decode cX15_root 29 = .ok (.iconst (-1), 1) := by decide +kernel
theorem dX15_root_30 : decode cX15_root 30 = .ok (.ireturn, 1) := by decide +kernel
theorem dX15_search_0 : decode cX15_search 0 = .ok (.aload_n 0, 1) := by decide +kernel
theorem dX15_search_1 : decode cX15_search 1 = .ok (.iload_n 1, 1) := by decide +kernel
theorem dX15_search_2 : decode cX15_search 2 = .ok (.invokevirtual 308, 3) := by decide +kernel
theorem dX15_search_5 : decode cX15_search 5 = .ok (.ifCond .eq 36, 3) := by decide +kernel
theorem dX15_search_41 : decode cX15_search 41 = .ok (.iconst 0, 1) := by decide +kernel
theorem dX15_search_42 : decode cX15_search 42 = .ok (.ireturn, 1) := by decide +kernel
theorem dX15_through_0 : decode cX15_through 0 = .ok (.aload_n 0, 1) := by decide +kernel
theorem dX15_through_1 : decode cX15_through 1 = .ok (.iload_n 1, 1) := by decide +kernel
theorem dX15_through_2 : decode cX15_through 2 = .ok (.invokevirtual 419, 3) := by decide +kernel
theorem dX15_through_5 : decode cX15_through 5 = .ok (.ifCond .eq 11, 3) := by decide +kernel
theorem dX15_through_16 : decode cX15_through 16 = .ok (.iconst 0, 1) := by decide +kernel
theorem dX15_through_17 : decode cX15_through 17 = .ok (.ireturn, 1) := by decide +kernel
theorem dX15_times_0 : decode cX15_times 0 = .ok (.aload_n 0, 1) := by decide +kernel
theorem dX15_times_1 : decode cX15_times 1 = .ok (.iload_n 1, 1) := by decide +kernel
theorem dX15_times_2 : decode cX15_times 2 = .ok (.invokevirtual 419, 3) := by decide +kernel
theorem dX15_times_5 : decode cX15_times 5 = .ok (.ifCond .eq 41, 3) := by decide +kernel
theorem dX15_times_46 : decode cX15_times 46 = .ok (.iconst 0, 1) := by decide +kernel
theorem dX15_times_47 : decode cX15_times 47 = .ok (.ireturn, 1) := by decide +kernel
theorem dX15_told_0 : decode cX15_told 0 = .ok (.aload_n 0, 1) := by decide +kernel
theorem dX15_told_1 : decode cX15_told 1 = .ok (.iload_n 1, 1) := by decide +kernel
theorem dX15_told_2 : decode cX15_told 2 = .ok (.invokevirtual 419, 3) := by decide +kernel
theorem dX15_told_5 : decode cX15_told 5 = .ok (.ifCond .eq 24, 3) := by decide +kernel
theorem dX15_told_29 : decode cX15_told 29 = .ok (.iconst 0, 1) := by decide +kernel
theorem dX15_told_30 : decode cX15_told 30 = .ok (.ireturn, 1) := by decide +kernel
theorem dX15_turned_0 : decode cX15_turned 0 = .ok (.aload_n 0, 1) := by decide +kernel
theorem dX15_turned_1 : decode cX15_turned 1 = .ok (.iload_n 1, 1) := by decide +kernel
theorem dX15_turned_2 : decode cX15_turned 2 = .ok (.invokevirtual 308, 3) := by decide +kernel
theorem dX15_turned_5 : decode cX15_turned 5 = .ok (.ifCond .eq 24, 3) := by decide +kernel
theorem dX15_turned_29 : decode cX15_turned 29 = .ok (.iconst 0, 1) := by decide +kernel
theorem dX15_turned_30 : decode cX15_turned 30 = .ok (.ireturn, 1) := by decide +kernel
def wk_X15_isCubic : List Cond := .code yX15_isCubic cX15_isCubic 2 (some .boolean) :: wU
set_option maxHeartbeats 4000000 in
set_option maxRecDepth 100000 in
theorem m_X15_isCubic (l : Launch) (dC : Nat → ClassId) (dI : Nat → Nat → Nat) (h0 sz : Nat) (fs : List Value) (c0 : Int32) (hf : mF fs) : Met l yX15_isCubic wk_X15_isCubic ({ frames := 2, cells := 0, slots := 0, locals := 60 } : Room) (mP dC dI [(h0, .inr (15, fs))] [] sz [.ref h0, .int c0]) (va_Qi (S := Unit) (fun r _ => r = 0) (fun _ t => va_P (dC, dI) clx [(h0, .inr (15, (fs.set 0 (.int 1))))] t.heap) (va_A [(h0, .inr (15, fs))] sz)) 0 0 (va_A [(h0, .inr (15, fs))] sz) := by
  refine Met.ofW (cc := cX15_isCubic) (maxL := 2) (ret := (some .boolean)) (by decide) rfl ?_
  intro p e s m args below meth c s₁ B hml hv
  obtain ⟨rfl, hsz, hP, hK, hD0⟩ := hv
  have hx := B.exec
  have hb := B.bytes
  have hr := B.returns
  have hts := atoms_spec (ws := wk_X15_isCubic) B.pre
  have hu : ∀ w ∈ wU, w.before ([.ref h0, .int c0] : List Value).toArray s = true := fun w h => hts w (List.mem_cons_of_mem _ h)
  have hown : s.vm.findClass RX15 = some m.cls := findClass_of_methodNamed B.named
  have hlocks := B.notSynchronized
  subst hsz
  have hD := va_D1 (sz := s.heap.size) h0 (.inr (15, fs))
  generalize hAe : va_A [(h0, .inr (15, fs))] s.heap.size = A at hD ⊢
  have hA : ∀ q : Nat, s.heap.size ≤ q → A q := fun q h => by rw [← hAe]; exact Or.inr h
  have hS : va_S A s.heap s.heap [] := va_S.rf
  have hl := lv_entry ([.ref h0, .int c0]) (n := 2) (Nat.le_of_ble_eq_true rfl)
  rw [lg_entry_eq]
  generalize (lg_sl ([.ref h0, .int c0]) ++ List.replicate (2 - (lg_sl ([.ref h0, .int c0])).length) Slot.unset).toArray = ls at hl ⊢
  have hl : lv_has ls 2 [(0, .ref h0), (1, .int c0)] := hl
  refine lv_aload_n hx hb dX15_isCubic_0 rfl (lv_at hl 0 rfl) ?_
  refine lv_iload_n hx hb dX15_isCubic_1 rfl (lv_at hl 1 rfl) ?_
  refine lv_if_lt (tgt := 13) hx hb dX15_isCubic_2 (by decide) (fun c1 => ?_) (fun c1 => ?_)
  · skip
    refine lv_iconst (v := 1) hx hb dX15_isCubic_13 (by decide) ?_
    refine lv_goto (tgt := 18) hx hb dX15_isCubic_14 (by decide) ?_
    refine va_put (D := (dC, dI)) (ci := 15) (v := .int 1) (ty := .int) (C := RX15) (T := TX15) (N := 74) hx hb hu iX15 tyX15 tyX15_ok nmX15 hown hK hP hD hS 0 rfl rfl 0 (by decide) (hu _ u230) (fun _ h9 => h9) rfl (by decide +kernel) rfl rfl (by rw [hf.2.2.2.2.2]; decide) dX15_isCubic_18 (fun H locs hP hD hS => ?_)
    have hP : va_P (dC, dI) clx [(h0, .inr (15, (fs.set 0 (.int 1))))] H := hP
    have hD : va_D A [(h0, .inr (15, (fs.set 0 (.int 1))))] := hD
    refine lv_aload_n hx hb dX15_isCubic_21 rfl (lv_at hl 0 rfl) ?_
    refine va_get (D := (dC, dI)) (ci := 15) (v := .int 1) (C := RX15) (T := TX15) (N := 74) hx hb hu iX15 hown hK hP 0 rfl rfl 0 (by decide) (hu _ u230) (fun _ h9 => h9) (List.getElem?_set_self (by rw [hf.2.2.2.2.2]; decide)) dX15_isCubic_22 ?_
    refine lv_if_ne (tgt := 32) hx hb dX15_isCubic_25 (by decide) (fun _ => ?_) (fun h9 => absurd h9 (by decide))
    refine lv_iconst (v := 0) hx hb dX15_isCubic_32 (by decide) ?_
    exact W.zret (v := 0) (ty := .boolean) hx hb hr rfl (fun t ht hW => ⟨⟨0, (), rfl, rfl, by show va_P _ _ _ t.heap; rw [ht]; exact hP⟩, hS.F ht⟩) hS.2.2 dX15_isCubic_33
  · skip
    refine lv_iload_n hx hb dX15_isCubic_5 rfl (lv_at hl 1 rfl) ?_
    refine lv_aload_n hx hb dX15_isCubic_6 rfl (lv_at hl 0 rfl) ?_
    refine va_get (D := (dC, dI)) (ci := 15) (v := .int 0) (C := RX15) (T := TX15) (N := 74) hx hb hu iX15 hown hK hP 0 rfl rfl 12 (by decide) (hu _ u231) (fun _ h9 => h9) hf.1 dX15_isCubic_7 ?_
    refine lv_icmp_lt (tgt := 17) hx hb dX15_isCubic_10 (by decide) (fun h9 => absurd h9 c1) (fun _ => ?_)
    refine lv_iconst (v := 1) hx hb dX15_isCubic_13 (by decide) ?_
    refine lv_goto (tgt := 18) hx hb dX15_isCubic_14 (by decide) ?_
    refine va_put (D := (dC, dI)) (ci := 15) (v := .int 1) (ty := .int) (C := RX15) (T := TX15) (N := 74) hx hb hu iX15 tyX15 tyX15_ok nmX15 hown hK hP hD hS 0 rfl rfl 0 (by decide) (hu _ u230) (fun _ h9 => h9) rfl (by decide +kernel) rfl rfl (by rw [hf.2.2.2.2.2]; decide) dX15_isCubic_18 (fun H locs hP hD hS => ?_)
    have hP : va_P (dC, dI) clx [(h0, .inr (15, (fs.set 0 (.int 1))))] H := hP
    have hD : va_D A [(h0, .inr (15, (fs.set 0 (.int 1))))] := hD
    refine lv_aload_n hx hb dX15_isCubic_21 rfl (lv_at hl 0 rfl) ?_
    refine va_get (D := (dC, dI)) (ci := 15) (v := .int 1) (C := RX15) (T := TX15) (N := 74) hx hb hu iX15 hown hK hP 0 rfl rfl 0 (by decide) (hu _ u230) (fun _ h9 => h9) (List.getElem?_set_self (by rw [hf.2.2.2.2.2]; decide)) dX15_isCubic_22 ?_
    refine lv_if_ne (tgt := 32) hx hb dX15_isCubic_25 (by decide) (fun _ => ?_) (fun h9 => absurd h9 (by decide))
    refine lv_iconst (v := 0) hx hb dX15_isCubic_32 (by decide) ?_
    exact W.zret (v := 0) (ty := .boolean) hx hb hr rfl (fun t ht hW => ⟨⟨0, (), rfl, rfl, by show va_P _ _ _ t.heap; rw [ht]; exact hP⟩, hS.F ht⟩) hS.2.2 dX15_isCubic_33
def wk_X15_isPoint : List Cond := .code yX15_isPoint cX15_isPoint 2 (some .boolean) :: wU
set_option maxHeartbeats 4000000 in
set_option maxRecDepth 100000 in
theorem m_X15_isPoint (l : Launch) (dC : Nat → ClassId) (dI : Nat → Nat → Nat) (h0 sz : Nat) (fs : List Value) (c0 : Int32) (hf : mF fs) : Met l yX15_isPoint wk_X15_isPoint ({ frames := 2, cells := 0, slots := 0, locals := 60 } : Room) (mP dC dI [(h0, .inr (15, fs))] [] sz [.ref h0, .int c0]) (va_Qi (S := Unit) (fun r _ => r = 0) (fun _ t => va_P (dC, dI) clx [(h0, .inr (15, (fs.set 0 (.int 1))))] t.heap) (va_A [(h0, .inr (15, fs))] sz)) 0 0 (va_A [(h0, .inr (15, fs))] sz) := by
  refine Met.ofW (cc := cX15_isPoint) (maxL := 2) (ret := (some .boolean)) (by decide) rfl ?_
  intro p e s m args below meth c s₁ B hml hv
  obtain ⟨rfl, hsz, hP, hK, hD0⟩ := hv
  have hx := B.exec
  have hb := B.bytes
  have hr := B.returns
  have hts := atoms_spec (ws := wk_X15_isPoint) B.pre
  have hu : ∀ w ∈ wU, w.before ([.ref h0, .int c0] : List Value).toArray s = true := fun w h => hts w (List.mem_cons_of_mem _ h)
  have hown : s.vm.findClass RX15 = some m.cls := findClass_of_methodNamed B.named
  have hlocks := B.notSynchronized
  subst hsz
  have hD := va_D1 (sz := s.heap.size) h0 (.inr (15, fs))
  generalize hAe : va_A [(h0, .inr (15, fs))] s.heap.size = A at hD ⊢
  have hA : ∀ q : Nat, s.heap.size ≤ q → A q := fun q h => by rw [← hAe]; exact Or.inr h
  have hS : va_S A s.heap s.heap [] := va_S.rf
  have hl := lv_entry ([.ref h0, .int c0]) (n := 2) (Nat.le_of_ble_eq_true rfl)
  rw [lg_entry_eq]
  generalize (lg_sl ([.ref h0, .int c0]) ++ List.replicate (2 - (lg_sl ([.ref h0, .int c0])).length) Slot.unset).toArray = ls at hl ⊢
  have hl : lv_has ls 2 [(0, .ref h0), (1, .int c0)] := hl
  refine lv_aload_n hx hb dX15_isPoint_0 rfl (lv_at hl 0 rfl) ?_
  refine lv_iload_n hx hb dX15_isPoint_1 rfl (lv_at hl 1 rfl) ?_
  refine lv_if_lt (tgt := 13) hx hb dX15_isPoint_2 (by decide) (fun c1 => ?_) (fun c1 => ?_)
  · skip
    refine lv_iconst (v := 1) hx hb dX15_isPoint_13 (by decide) ?_
    refine lv_goto (tgt := 18) hx hb dX15_isPoint_14 (by decide) ?_
    refine va_put (D := (dC, dI)) (ci := 15) (v := .int 1) (ty := .int) (C := RX15) (T := TX15) (N := 74) hx hb hu iX15 tyX15 tyX15_ok nmX15 hown hK hP hD hS 0 rfl rfl 0 (by decide) (hu _ u230) (fun _ h9 => h9) rfl (by decide +kernel) rfl rfl (by rw [hf.2.2.2.2.2]; decide) dX15_isPoint_18 (fun H locs hP hD hS => ?_)
    have hP : va_P (dC, dI) clx [(h0, .inr (15, (fs.set 0 (.int 1))))] H := hP
    have hD : va_D A [(h0, .inr (15, (fs.set 0 (.int 1))))] := hD
    refine lv_aload_n hx hb dX15_isPoint_21 rfl (lv_at hl 0 rfl) ?_
    refine va_get (D := (dC, dI)) (ci := 15) (v := .int 1) (C := RX15) (T := TX15) (N := 74) hx hb hu iX15 hown hK hP 0 rfl rfl 0 (by decide) (hu _ u230) (fun _ h9 => h9) (List.getElem?_set_self (by rw [hf.2.2.2.2.2]; decide)) dX15_isPoint_22 ?_
    refine lv_if_ne (tgt := 32) hx hb dX15_isPoint_25 (by decide) (fun _ => ?_) (fun h9 => absurd h9 (by decide))
    refine lv_iconst (v := 0) hx hb dX15_isPoint_32 (by decide) ?_
    exact W.zret (v := 0) (ty := .boolean) hx hb hr rfl (fun t ht hW => ⟨⟨0, (), rfl, rfl, by show va_P _ _ _ t.heap; rw [ht]; exact hP⟩, hS.F ht⟩) hS.2.2 dX15_isPoint_33
  · skip
    refine lv_iload_n hx hb dX15_isPoint_5 rfl (lv_at hl 1 rfl) ?_
    refine lv_aload_n hx hb dX15_isPoint_6 rfl (lv_at hl 0 rfl) ?_
    refine va_get (D := (dC, dI)) (ci := 15) (v := .int 0) (C := RX15) (T := TX15) (N := 74) hx hb hu iX15 hown hK hP 0 rfl rfl 22 (by decide) (hu _ u232) (fun _ h9 => h9) hf.2.1 dX15_isPoint_7 ?_
    refine lv_icmp_lt (tgt := 17) hx hb dX15_isPoint_10 (by decide) (fun h9 => absurd h9 c1) (fun _ => ?_)
    refine lv_iconst (v := 1) hx hb dX15_isPoint_13 (by decide) ?_
    refine lv_goto (tgt := 18) hx hb dX15_isPoint_14 (by decide) ?_
    refine va_put (D := (dC, dI)) (ci := 15) (v := .int 1) (ty := .int) (C := RX15) (T := TX15) (N := 74) hx hb hu iX15 tyX15 tyX15_ok nmX15 hown hK hP hD hS 0 rfl rfl 0 (by decide) (hu _ u230) (fun _ h9 => h9) rfl (by decide +kernel) rfl rfl (by rw [hf.2.2.2.2.2]; decide) dX15_isPoint_18 (fun H locs hP hD hS => ?_)
    have hP : va_P (dC, dI) clx [(h0, .inr (15, (fs.set 0 (.int 1))))] H := hP
    have hD : va_D A [(h0, .inr (15, (fs.set 0 (.int 1))))] := hD
    refine lv_aload_n hx hb dX15_isPoint_21 rfl (lv_at hl 0 rfl) ?_
    refine va_get (D := (dC, dI)) (ci := 15) (v := .int 1) (C := RX15) (T := TX15) (N := 74) hx hb hu iX15 hown hK hP 0 rfl rfl 0 (by decide) (hu _ u230) (fun _ h9 => h9) (List.getElem?_set_self (by rw [hf.2.2.2.2.2]; decide)) dX15_isPoint_22 ?_
    refine lv_if_ne (tgt := 32) hx hb dX15_isPoint_25 (by decide) (fun _ => ?_) (fun h9 => absurd h9 (by decide))
    refine lv_iconst (v := 0) hx hb dX15_isPoint_32 (by decide) ?_
    exact W.zret (v := 0) (ty := .boolean) hx hb hr rfl (fun t ht hW => ⟨⟨0, (), rfl, rfl, by show va_P _ _ _ t.heap; rw [ht]; exact hP⟩, hS.F ht⟩) hS.2.2 dX15_isPoint_33
def wk_X15_isRest : List Cond := .code yX15_isRest cX15_isRest 4 (some .boolean) :: wU
set_option maxHeartbeats 4000000 in
set_option maxRecDepth 100000 in
theorem m_X15_isRest (l : Launch) (dC : Nat → ClassId) (dI : Nat → Nat → Nat) (h0 sz : Nat) (fs : List Value) (c0 d0 e0 : Int32) (hf : mF fs) : Met l yX15_isRest wk_X15_isRest ({ frames := 3, cells := 0, slots := 0, locals := 81 } : Room) (mP dC dI [(h0, .inr (15, fs))] [] sz [.ref h0, .int c0, .int d0, .int e0]) (va_Qi (S := Unit) (fun r _ => r = 0) (fun _ t => va_P (dC, dI) clx [(h0, .inr (15, (fs.set 0 (.int 1))))] t.heap) (va_A [(h0, .inr (15, fs))] sz)) 0 0 (va_A [(h0, .inr (15, fs))] sz) := by
  refine Met.ofW (cc := cX15_isRest) (maxL := 4) (ret := (some .boolean)) (by decide) rfl ?_
  intro p e s m args below meth c s₁ B hml hv
  obtain ⟨rfl, hsz, hP, hK, hD0⟩ := hv
  have hx := B.exec
  have hb := B.bytes
  have hr := B.returns
  have hts := atoms_spec (ws := wk_X15_isRest) B.pre
  have hu : ∀ w ∈ wU, w.before ([.ref h0, .int c0, .int d0, .int e0] : List Value).toArray s = true := fun w h => hts w (List.mem_cons_of_mem _ h)
  have hown : s.vm.findClass RX15 = some m.cls := findClass_of_methodNamed B.named
  have hlocks := B.notSynchronized
  subst hsz
  have hD := va_D1 (sz := s.heap.size) h0 (.inr (15, fs))
  generalize hAe : va_A [(h0, .inr (15, fs))] s.heap.size = A at hD ⊢
  have hA : ∀ q : Nat, s.heap.size ≤ q → A q := fun q h => by rw [← hAe]; exact Or.inr h
  have hS : va_S A s.heap s.heap [] := va_S.rf
  have hl := lv_entry ([.ref h0, .int c0, .int d0, .int e0]) (n := 4) (Nat.le_of_ble_eq_true rfl)
  rw [lg_entry_eq]
  generalize (lg_sl ([.ref h0, .int c0, .int d0, .int e0]) ++ List.replicate (4 - (lg_sl ([.ref h0, .int c0, .int d0, .int e0])).length) Slot.unset).toArray = ls at hl ⊢
  have hl : lv_has ls 4 [(0, .ref h0), (1, .int c0), (2, .int d0), (3, .int e0)] := hl
  refine lv_aload_n hx hb dX15_isRest_0 rfl (lv_at hl 0 rfl) ?_
  refine lv_iload_n hx hb dX15_isRest_1 rfl (lv_at hl 1 rfl) ?_
  have hFc := va_free (wc := [(h0, .inr (15, fs))]) hD hS hA [0] rfl
  refine va_calli (va_runV (As := [.int c0]) (rest := []) ⟨hx, hb, hml, hown, hu⟩ (m_X15_isCubic l dC dI h0 _ fs (c0) hf) (cwV 1 hu (gV u233 u234 u235 u236 u237) rfl rfl rfl (by decide +kernel) ⟨(Nat.le_of_ble_eq_true rfl), (Nat.le_of_ble_eq_true rfl)⟩) ⟨mP_blind, va_recv hK hP (ci := 15) (q0 := 0) rfl rfl, mP_at hP hK hD⟩ rfl rfl hl.1 rfl (lv_room (Nat.le_of_ble_eq_true rfl)) dX15_isRest_2 ⟨Nat.zero_le _, Nat.zero_le _⟩) hS (fun q _ h => hFc q h) hFc (fun r1 u9 t H1 locs ht hvm hw hB hz1 hk1 hS => ?_)
  have hw : r1 = 0 := hw
  subst hw
  have hP : va_P (dC, dI) clx [(h0, .inr (15, (fs.set 0 (.int 1))))] t.heap := hB
  rw [ht] at hP
  refine lv_if_eq (tgt := 47) hx hb dX15_isRest_5 (by decide) (fun _ => ?_) (fun h9 => absurd (by decide) h9)
  refine lv_iconst (v := 0) hx hb dX15_isRest_47 (by decide) ?_
  exact W.zret (v := 0) (ty := .boolean) hx hb hr rfl (fun t ht hW => ⟨⟨0, (), rfl, rfl, by show va_P _ _ _ t.heap; rw [ht]; exact hP⟩, hS.F ht⟩) hS.2.2 dX15_isRest_48
def wk_X15_rest : List Cond := .code yX15_rest cX15_rest 7 (some .int) :: wU
set_option maxHeartbeats 4000000 in
set_option maxRecDepth 100000 in
theorem m_X15_rest (l : Launch) (dC : Nat → ClassId) (dI : Nat → Nat → Nat) (h0 sz : Nat) (fs : List Value) (c0 d0 : Int32) (hf : mF fs) : Met l yX15_rest wk_X15_rest ({ frames := 3, cells := 0, slots := 0, locals := 81 } : Room) (mP dC dI [(h0, .inr (15, fs))] [] sz [.ref h0, .int c0, .int d0]) (va_Qi (S := Unit) (fun r _ => r = 0) (fun _ t => va_P (dC, dI) clx [(h0, .inr (15, (fs.set 0 (.int 1))))] t.heap) (va_A [(h0, .inr (15, fs))] sz)) 0 0 (va_A [(h0, .inr (15, fs))] sz) := by
  refine Met.ofW (cc := cX15_rest) (maxL := 7) (ret := (some .int)) (by decide) rfl ?_
  intro p e s m args below meth c s₁ B hml hv
  obtain ⟨rfl, hsz, hP, hK, hD0⟩ := hv
  have hx := B.exec
  have hb := B.bytes
  have hr := B.returns
  have hts := atoms_spec (ws := wk_X15_rest) B.pre
  have hu : ∀ w ∈ wU, w.before ([.ref h0, .int c0, .int d0] : List Value).toArray s = true := fun w h => hts w (List.mem_cons_of_mem _ h)
  have hown : s.vm.findClass RX15 = some m.cls := findClass_of_methodNamed B.named
  have hlocks := B.notSynchronized
  subst hsz
  have hD := va_D1 (sz := s.heap.size) h0 (.inr (15, fs))
  generalize hAe : va_A [(h0, .inr (15, fs))] s.heap.size = A at hD ⊢
  have hA : ∀ q : Nat, s.heap.size ≤ q → A q := fun q h => by rw [← hAe]; exact Or.inr h
  have hS : va_S A s.heap s.heap [] := va_S.rf
  have hl := lv_entry ([.ref h0, .int c0, .int d0]) (n := 7) (Nat.le_of_ble_eq_true rfl)
  rw [lg_entry_eq]
  generalize (lg_sl ([.ref h0, .int c0, .int d0]) ++ List.replicate (7 - (lg_sl ([.ref h0, .int c0, .int d0])).length) Slot.unset).toArray = ls at hl ⊢
  have hl : lv_has ls 7 [(0, .ref h0), (1, .int c0), (2, .int d0)] := hl
  refine lv_aload_n hx hb dX15_rest_0 rfl (lv_at hl 0 rfl) ?_
  refine lv_iload_n hx hb dX15_rest_1 rfl (lv_at hl 1 rfl) ?_
  have hFc := va_free (wc := [(h0, .inr (15, fs))]) hD hS hA [0] rfl
  refine va_calli (va_runV (As := [.int c0]) (rest := []) ⟨hx, hb, hml, hown, hu⟩ (m_X15_isCubic l dC dI h0 _ fs (c0) hf) (cwV 1 hu (gV u233 u234 u235 u236 u237) rfl rfl rfl (by decide +kernel) ⟨(Nat.le_of_ble_eq_true rfl), (Nat.le_of_ble_eq_true rfl)⟩) ⟨mP_blind, va_recv hK hP (ci := 15) (q0 := 0) rfl rfl, mP_at hP hK hD⟩ rfl rfl hl.1 rfl (lv_room (Nat.le_of_ble_eq_true rfl)) dX15_rest_2 ⟨Nat.zero_le _, Nat.zero_le _⟩) hS (fun q _ h => hFc q h) hFc (fun r1 u9 t H1 locs ht hvm hw hB hz1 hk1 hS => ?_)
  have hw : r1 = 0 := hw
  subst hw
  have hP : va_P (dC, dI) clx [(h0, .inr (15, (fs.set 0 (.int 1))))] t.heap := hB
  rw [ht] at hP
  refine lv_if_eq (tgt := 36) hx hb dX15_rest_5 (by decide) (fun _ => ?_) (fun h9 => absurd (by decide) h9)
  refine lv_iconst (v := 0) hx hb dX15_rest_36 (by decide) ?_
  exact W.iret (v := 0) hx hb hr (fun t ht hW => ⟨⟨0, (), rfl, rfl, by show va_P _ _ _ t.heap; rw [ht]; exact hP⟩, hS.F ht⟩) hS.2.2 dX15_rest_37
def wk_X15_turned : List Cond := .code yX15_turned cX15_turned 5 (some .int) :: wU
set_option maxHeartbeats 4000000 in
set_option maxRecDepth 100000 in
theorem m_X15_turned (l : Launch) (dC : Nat → ClassId) (dI : Nat → Nat → Nat) (h0 sz : Nat) (fs : List Value) (c0 : Int32) (hf : mF fs) : Met l yX15_turned wk_X15_turned ({ frames := 3, cells := 0, slots := 0, locals := 81 } : Room) (mP dC dI [(h0, .inr (15, fs))] [] sz [.ref h0, .int c0]) (va_Qi (S := Unit) (fun r _ => r = 0) (fun _ t => va_P (dC, dI) clx [(h0, .inr (15, (fs.set 0 (.int 1))))] t.heap) (va_A [(h0, .inr (15, fs))] sz)) 0 0 (va_A [(h0, .inr (15, fs))] sz) := by
  refine Met.ofW (cc := cX15_turned) (maxL := 5) (ret := (some .int)) (by decide) rfl ?_
  intro p e s m args below meth c s₁ B hml hv
  obtain ⟨rfl, hsz, hP, hK, hD0⟩ := hv
  have hx := B.exec
  have hb := B.bytes
  have hr := B.returns
  have hts := atoms_spec (ws := wk_X15_turned) B.pre
  have hu : ∀ w ∈ wU, w.before ([.ref h0, .int c0] : List Value).toArray s = true := fun w h => hts w (List.mem_cons_of_mem _ h)
  have hown : s.vm.findClass RX15 = some m.cls := findClass_of_methodNamed B.named
  have hlocks := B.notSynchronized
  subst hsz
  have hD := va_D1 (sz := s.heap.size) h0 (.inr (15, fs))
  generalize hAe : va_A [(h0, .inr (15, fs))] s.heap.size = A at hD ⊢
  have hA : ∀ q : Nat, s.heap.size ≤ q → A q := fun q h => by rw [← hAe]; exact Or.inr h
  have hS : va_S A s.heap s.heap [] := va_S.rf
  have hl := lv_entry ([.ref h0, .int c0]) (n := 5) (Nat.le_of_ble_eq_true rfl)
  rw [lg_entry_eq]
  generalize (lg_sl ([.ref h0, .int c0]) ++ List.replicate (5 - (lg_sl ([.ref h0, .int c0])).length) Slot.unset).toArray = ls at hl ⊢
  have hl : lv_has ls 5 [(0, .ref h0), (1, .int c0)] := hl
  refine lv_aload_n hx hb dX15_turned_0 rfl (lv_at hl 0 rfl) ?_
  refine lv_iload_n hx hb dX15_turned_1 rfl (lv_at hl 1 rfl) ?_
  have hFc := va_free (wc := [(h0, .inr (15, fs))]) hD hS hA [0] rfl
  refine va_calli (va_runV (As := [.int c0]) (rest := []) ⟨hx, hb, hml, hown, hu⟩ (m_X15_isCubic l dC dI h0 _ fs (c0) hf) (cwV 1 hu (gV u233 u234 u235 u236 u237) rfl rfl rfl (by decide +kernel) ⟨(Nat.le_of_ble_eq_true rfl), (Nat.le_of_ble_eq_true rfl)⟩) ⟨mP_blind, va_recv hK hP (ci := 15) (q0 := 0) rfl rfl, mP_at hP hK hD⟩ rfl rfl hl.1 rfl (lv_room (Nat.le_of_ble_eq_true rfl)) dX15_turned_2 ⟨Nat.zero_le _, Nat.zero_le _⟩) hS (fun q _ h => hFc q h) hFc (fun r1 u9 t H1 locs ht hvm hw hB hz1 hk1 hS => ?_)
  have hw : r1 = 0 := hw
  subst hw
  have hP : va_P (dC, dI) clx [(h0, .inr (15, (fs.set 0 (.int 1))))] t.heap := hB
  rw [ht] at hP
  refine lv_if_eq (tgt := 29) hx hb dX15_turned_5 (by decide) (fun _ => ?_) (fun h9 => absurd (by decide) h9)
  refine lv_iconst (v := 0) hx hb dX15_turned_29 (by decide) ?_
  exact W.iret (v := 0) hx hb hr (fun t ht hW => ⟨⟨0, (), rfl, rfl, by show va_P _ _ _ t.heap; rw [ht]; exact hP⟩, hS.F ht⟩) hS.2.2 dX15_turned_30
def wk_X15_about : List Cond := .code yX15_about cX15_about 4 (some .long) :: wU
set_option maxHeartbeats 4000000 in
set_option maxRecDepth 100000 in
theorem m_X15_about (l : Launch) (dC : Nat → ClassId) (dI : Nat → Nat → Nat) (h0 sz : Nat) (fs : List Value) (c0 d0 : Int32) (hf : mF fs) : Met l yX15_about wk_X15_about ({ frames := 3, cells := 0, slots := 0, locals := 81 } : Room) (mP dC dI [(h0, .inr (15, fs))] [] sz [.ref h0, .int c0, .int d0]) (va_Ql (S := Unit) (fun r _ => r = 0) (fun _ t => va_P (dC, dI) clx [(h0, .inr (15, (fs.set 0 (.int 1))))] t.heap) (va_A [(h0, .inr (15, fs))] sz)) 0 0 (va_A [(h0, .inr (15, fs))] sz) := by
  refine Met.ofW (cc := cX15_about) (maxL := 4) (ret := (some .long)) (by decide) rfl ?_
  intro p e s m args below meth c s₁ B hml hv
  obtain ⟨rfl, hsz, hP, hK, hD0⟩ := hv
  have hx := B.exec
  have hb := B.bytes
  have hr := B.returns
  have hts := atoms_spec (ws := wk_X15_about) B.pre
  have hu : ∀ w ∈ wU, w.before ([.ref h0, .int c0, .int d0] : List Value).toArray s = true := fun w h => hts w (List.mem_cons_of_mem _ h)
  have hown : s.vm.findClass RX15 = some m.cls := findClass_of_methodNamed B.named
  have hlocks := B.notSynchronized
  subst hsz
  have hD := va_D1 (sz := s.heap.size) h0 (.inr (15, fs))
  generalize hAe : va_A [(h0, .inr (15, fs))] s.heap.size = A at hD ⊢
  have hA : ∀ q : Nat, s.heap.size ≤ q → A q := fun q h => by rw [← hAe]; exact Or.inr h
  have hS : va_S A s.heap s.heap [] := va_S.rf
  have hl := lv_entry ([.ref h0, .int c0, .int d0]) (n := 4) (Nat.le_of_ble_eq_true rfl)
  rw [lg_entry_eq]
  generalize (lg_sl ([.ref h0, .int c0, .int d0]) ++ List.replicate (4 - (lg_sl ([.ref h0, .int c0, .int d0])).length) Slot.unset).toArray = ls at hl ⊢
  have hl : lv_has ls 4 [(0, .ref h0), (1, .int c0), (2, .int d0)] := hl
  refine lv_aload_n hx hb dX15_about_0 rfl (lv_at hl 0 rfl) ?_
  refine lv_iload_n hx hb dX15_about_1 rfl (lv_at hl 1 rfl) ?_
  have hFc := va_free (wc := [(h0, .inr (15, fs))]) hD hS hA [0] rfl
  refine va_calli (va_runV (As := [.int c0]) (rest := []) ⟨hx, hb, hml, hown, hu⟩ (m_X15_isCubic l dC dI h0 _ fs (c0) hf) (cwV 1 hu (gV u233 u234 u235 u236 u237) rfl rfl rfl (by decide +kernel) ⟨(Nat.le_of_ble_eq_true rfl), (Nat.le_of_ble_eq_true rfl)⟩) ⟨mP_blind, va_recv hK hP (ci := 15) (q0 := 0) rfl rfl, mP_at hP hK hD⟩ rfl rfl hl.1 rfl (lv_room (Nat.le_of_ble_eq_true rfl)) dX15_about_2 ⟨Nat.zero_le _, Nat.zero_le _⟩) hS (fun q _ h => hFc q h) hFc (fun r1 u9 t H1 locs ht hvm hw hB hz1 hk1 hS => ?_)
  have hw : r1 = 0 := hw
  subst hw
  have hP : va_P (dC, dI) clx [(h0, .inr (15, (fs.set 0 (.int 1))))] t.heap := hB
  rw [ht] at hP
  refine lv_if_eq (tgt := 29) hx hb dX15_about_5 (by decide) (fun _ => ?_) (fun h9 => absurd (by decide) h9)
  refine lv_lconst (v := 0) hx hb dX15_about_29 (by decide) ?_
  exact W.lret (v := 0) hx hb hr (fun t ht hW => ⟨⟨0, (), rfl, rfl, by show va_P _ _ _ t.heap; rw [ht]; exact hP⟩, hS.F ht⟩) hS.2.2 dX15_about_30
def wk_X15_far : List Cond := .code yX15_far cX15_far 2 (some .int) :: wU
set_option maxHeartbeats 4000000 in
set_option maxRecDepth 100000 in
theorem m_X15_far (l : Launch) (dC : Nat → ClassId) (dI : Nat → Nat → Nat) (h0 sz : Nat) (fs : List Value) (c0 : Int32) (hf : mF fs) : Met l yX15_far wk_X15_far ({ frames := 3, cells := 0, slots := 0, locals := 81 } : Room) (mP dC dI [(h0, .inr (15, fs))] [] sz [.ref h0, .int c0]) (va_Qi (S := Unit) (fun r _ => r = 0) (fun _ t => va_P (dC, dI) clx [(h0, .inr (15, (fs.set 0 (.int 1))))] t.heap) (va_A [(h0, .inr (15, fs))] sz)) 0 0 (va_A [(h0, .inr (15, fs))] sz) := by
  refine Met.ofW (cc := cX15_far) (maxL := 2) (ret := (some .int)) (by decide) rfl ?_
  intro p e s m args below meth c s₁ B hml hv
  obtain ⟨rfl, hsz, hP, hK, hD0⟩ := hv
  have hx := B.exec
  have hb := B.bytes
  have hr := B.returns
  have hts := atoms_spec (ws := wk_X15_far) B.pre
  have hu : ∀ w ∈ wU, w.before ([.ref h0, .int c0] : List Value).toArray s = true := fun w h => hts w (List.mem_cons_of_mem _ h)
  have hown : s.vm.findClass RX15 = some m.cls := findClass_of_methodNamed B.named
  have hlocks := B.notSynchronized
  subst hsz
  have hD := va_D1 (sz := s.heap.size) h0 (.inr (15, fs))
  generalize hAe : va_A [(h0, .inr (15, fs))] s.heap.size = A at hD ⊢
  have hA : ∀ q : Nat, s.heap.size ≤ q → A q := fun q h => by rw [← hAe]; exact Or.inr h
  have hS : va_S A s.heap s.heap [] := va_S.rf
  have hl := lv_entry ([.ref h0, .int c0]) (n := 2) (Nat.le_of_ble_eq_true rfl)
  rw [lg_entry_eq]
  generalize (lg_sl ([.ref h0, .int c0]) ++ List.replicate (2 - (lg_sl ([.ref h0, .int c0])).length) Slot.unset).toArray = ls at hl ⊢
  have hl : lv_has ls 2 [(0, .ref h0), (1, .int c0)] := hl
  refine lv_aload_n hx hb dX15_far_0 rfl (lv_at hl 0 rfl) ?_
  refine lv_iload_n hx hb dX15_far_1 rfl (lv_at hl 1 rfl) ?_
  have hFc := va_free (wc := [(h0, .inr (15, fs))]) hD hS hA [0] rfl
  refine va_calli (va_runV (As := [.int c0]) (rest := []) ⟨hx, hb, hml, hown, hu⟩ (m_X15_isCubic l dC dI h0 _ fs (c0) hf) (cwV 1 hu (gV u233 u234 u235 u236 u237) rfl rfl rfl (by decide +kernel) ⟨(Nat.le_of_ble_eq_true rfl), (Nat.le_of_ble_eq_true rfl)⟩) ⟨mP_blind, va_recv hK hP (ci := 15) (q0 := 0) rfl rfl, mP_at hP hK hD⟩ rfl rfl hl.1 rfl (lv_room (Nat.le_of_ble_eq_true rfl)) dX15_far_2 ⟨Nat.zero_le _, Nat.zero_le _⟩) hS (fun q _ h => hFc q h) hFc (fun r1 u9 t H1 locs ht hvm hw hB hz1 hk1 hS => ?_)
  have hw : r1 = 0 := hw
  subst hw
  have hP : va_P (dC, dI) clx [(h0, .inr (15, (fs.set 0 (.int 1))))] t.heap := hB
  rw [ht] at hP
  refine lv_if_ne (tgt := 10) hx hb dX15_far_5 (by decide) (fun h9 => absurd (by decide) h9) (fun _ => ?_)
  refine lv_iconst (v := 0) hx hb dX15_far_8 (by decide) ?_
  exact W.iret (v := 0) hx hb hr (fun t ht hW => ⟨⟨0, (), rfl, rfl, by show va_P _ _ _ t.heap; rw [ht]; exact hP⟩, hS.F ht⟩) hS.2.2 dX15_far_9
def wk_X15_point : List Cond := .code yX15_point cX15_point 7 (some .int) :: wU
set_option maxHeartbeats 4000000 in
set_option maxRecDepth 100000 in
theorem m_X15_point (l : Launch) (dC : Nat → ClassId) (dI : Nat → Nat → Nat) (h0 sz : Nat) (fs : List Value) (c0 d0 e0 : Int32) (hf : mF fs) : Met l yX15_point wk_X15_point ({ frames := 3, cells := 0, slots := 0, locals := 81 } : Room) (mP dC dI [(h0, .inr (15, fs))] [] sz [.ref h0, .int c0, .int d0, .int e0]) (va_Qi (S := Unit) (fun r _ => r = 0) (fun _ t => va_P (dC, dI) clx [(h0, .inr (15, (fs.set 0 (.int 1))))] t.heap) (va_A [(h0, .inr (15, fs))] sz)) 0 0 (va_A [(h0, .inr (15, fs))] sz) := by
  refine Met.ofW (cc := cX15_point) (maxL := 7) (ret := (some .int)) (by decide) rfl ?_
  intro p e s m args below meth c s₁ B hml hv
  obtain ⟨rfl, hsz, hP, hK, hD0⟩ := hv
  have hx := B.exec
  have hb := B.bytes
  have hr := B.returns
  have hts := atoms_spec (ws := wk_X15_point) B.pre
  have hu : ∀ w ∈ wU, w.before ([.ref h0, .int c0, .int d0, .int e0] : List Value).toArray s = true := fun w h => hts w (List.mem_cons_of_mem _ h)
  have hown : s.vm.findClass RX15 = some m.cls := findClass_of_methodNamed B.named
  have hlocks := B.notSynchronized
  subst hsz
  have hD := va_D1 (sz := s.heap.size) h0 (.inr (15, fs))
  generalize hAe : va_A [(h0, .inr (15, fs))] s.heap.size = A at hD ⊢
  have hA : ∀ q : Nat, s.heap.size ≤ q → A q := fun q h => by rw [← hAe]; exact Or.inr h
  have hS : va_S A s.heap s.heap [] := va_S.rf
  have hl := lv_entry ([.ref h0, .int c0, .int d0, .int e0]) (n := 7) (Nat.le_of_ble_eq_true rfl)
  rw [lg_entry_eq]
  generalize (lg_sl ([.ref h0, .int c0, .int d0, .int e0]) ++ List.replicate (7 - (lg_sl ([.ref h0, .int c0, .int d0, .int e0])).length) Slot.unset).toArray = ls at hl ⊢
  have hl : lv_has ls 7 [(0, .ref h0), (1, .int c0), (2, .int d0), (3, .int e0)] := hl
  refine lv_aload_n hx hb dX15_point_0 rfl (lv_at hl 0 rfl) ?_
  refine lv_iload_n hx hb dX15_point_1 rfl (lv_at hl 1 rfl) ?_
  have hFc := va_free (wc := [(h0, .inr (15, fs))]) hD hS hA [0] rfl
  refine va_calli (va_runV (As := [.int c0]) (rest := []) ⟨hx, hb, hml, hown, hu⟩ (m_X15_isCubic l dC dI h0 _ fs (c0) hf) (cwV 1 hu (gV u233 u234 u235 u236 u237) rfl rfl rfl (by decide +kernel) ⟨(Nat.le_of_ble_eq_true rfl), (Nat.le_of_ble_eq_true rfl)⟩) ⟨mP_blind, va_recv hK hP (ci := 15) (q0 := 0) rfl rfl, mP_at hP hK hD⟩ rfl rfl hl.1 rfl (lv_room (Nat.le_of_ble_eq_true rfl)) dX15_point_2 ⟨Nat.zero_le _, Nat.zero_le _⟩) hS (fun q _ h => hFc q h) hFc (fun r1 u9 t H1 locs ht hvm hw hB hz1 hk1 hS => ?_)
  have hw : r1 = 0 := hw
  subst hw
  have hP : va_P (dC, dI) clx [(h0, .inr (15, (fs.set 0 (.int 1))))] t.heap := hB
  rw [ht] at hP
  refine lv_if_ne (tgt := 10) hx hb dX15_point_5 (by decide) (fun h9 => absurd (by decide) h9) (fun _ => ?_)
  refine lv_iconst (v := 0) hx hb dX15_point_8 (by decide) ?_
  exact W.iret (v := 0) hx hb hr (fun t ht hW => ⟨⟨0, (), rfl, rfl, by show va_P _ _ _ t.heap; rw [ht]; exact hP⟩, hS.F ht⟩) hS.2.2 dX15_point_9
def wk_X15_add : List Cond := .code yX15_add cX15_add 4 (some .int) :: wU
set_option maxHeartbeats 4000000 in
set_option maxRecDepth 100000 in
theorem m_X15_add (l : Launch) (dC : Nat → ClassId) (dI : Nat → Nat → Nat) (h0 sz : Nat) (fs : List Value) (c0 d0 : Int32) (hf : mF fs) : Met l yX15_add wk_X15_add ({ frames := 3, cells := 0, slots := 0, locals := 81 } : Room) (mP dC dI [(h0, .inr (15, fs))] [] sz [.ref h0, .int c0, .int d0]) (va_Qi (S := Unit) (fun r _ => r = 0) (fun _ t => va_P (dC, dI) clx [(h0, .inr (15, (fs.set 0 (.int 1))))] t.heap) (va_A [(h0, .inr (15, fs))] sz)) 0 0 (va_A [(h0, .inr (15, fs))] sz) := by
  refine Met.ofW (cc := cX15_add) (maxL := 4) (ret := (some .int)) (by decide) rfl ?_
  intro p e s m args below meth c s₁ B hml hv
  obtain ⟨rfl, hsz, hP, hK, hD0⟩ := hv
  have hx := B.exec
  have hb := B.bytes
  have hr := B.returns
  have hts := atoms_spec (ws := wk_X15_add) B.pre
  have hu : ∀ w ∈ wU, w.before ([.ref h0, .int c0, .int d0] : List Value).toArray s = true := fun w h => hts w (List.mem_cons_of_mem _ h)
  have hown : s.vm.findClass RX15 = some m.cls := findClass_of_methodNamed B.named
  have hlocks := B.notSynchronized
  subst hsz
  have hD := va_D1 (sz := s.heap.size) h0 (.inr (15, fs))
  generalize hAe : va_A [(h0, .inr (15, fs))] s.heap.size = A at hD ⊢
  have hA : ∀ q : Nat, s.heap.size ≤ q → A q := fun q h => by rw [← hAe]; exact Or.inr h
  have hS : va_S A s.heap s.heap [] := va_S.rf
  have hl := lv_entry ([.ref h0, .int c0, .int d0]) (n := 4) (Nat.le_of_ble_eq_true rfl)
  rw [lg_entry_eq]
  generalize (lg_sl ([.ref h0, .int c0, .int d0]) ++ List.replicate (4 - (lg_sl ([.ref h0, .int c0, .int d0])).length) Slot.unset).toArray = ls at hl ⊢
  have hl : lv_has ls 4 [(0, .ref h0), (1, .int c0), (2, .int d0)] := hl
  refine lv_aload_n hx hb dX15_add_0 rfl (lv_at hl 0 rfl) ?_
  refine lv_iload_n hx hb dX15_add_1 rfl (lv_at hl 1 rfl) ?_
  have hFc := va_free (wc := [(h0, .inr (15, fs))]) hD hS hA [0] rfl
  refine va_calli (va_runV (As := [.int c0]) (rest := []) ⟨hx, hb, hml, hown, hu⟩ (m_X15_isPoint l dC dI h0 _ fs (c0) hf) (cwV 1 hu (gV u238 u239 u240 u236 u241) rfl rfl rfl (by decide +kernel) ⟨(Nat.le_of_ble_eq_true rfl), (Nat.le_of_ble_eq_true rfl)⟩) ⟨mP_blind, va_recv hK hP (ci := 15) (q0 := 0) rfl rfl, mP_at hP hK hD⟩ rfl rfl hl.1 rfl (lv_room (Nat.le_of_ble_eq_true rfl)) dX15_add_2 ⟨Nat.zero_le _, Nat.zero_le _⟩) hS (fun q _ h => hFc q h) hFc (fun r1 u9 t H1 locs ht hvm hw hB hz1 hk1 hS => ?_)
  have hw : r1 = 0 := hw
  subst hw
  have hP : va_P (dC, dI) clx [(h0, .inr (15, (fs.set 0 (.int 1))))] t.heap := hB
  rw [ht] at hP
  refine lv_if_eq (tgt := 16) hx hb dX15_add_5 (by decide) (fun _ => ?_) (fun h9 => absurd (by decide) h9)
  refine lv_iconst (v := 0) hx hb dX15_add_16 (by decide) ?_
  exact W.iret (v := 0) hx hb hr (fun t ht hW => ⟨⟨0, (), rfl, rfl, by show va_P _ _ _ t.heap; rw [ht]; exact hP⟩, hS.F ht⟩) hS.2.2 dX15_add_17
def wk_X15_mirror : List Cond := .code yX15_mirror cX15_mirror 2 (some .int) :: wU
set_option maxHeartbeats 4000000 in
set_option maxRecDepth 100000 in
theorem m_X15_mirror (l : Launch) (dC : Nat → ClassId) (dI : Nat → Nat → Nat) (h0 sz : Nat) (fs : List Value) (c0 : Int32) (hf : mF fs) : Met l yX15_mirror wk_X15_mirror ({ frames := 3, cells := 0, slots := 0, locals := 81 } : Room) (mP dC dI [(h0, .inr (15, fs))] [] sz [.ref h0, .int c0]) (va_Qi (S := Unit) (fun r _ => r = 0) (fun _ t => va_P (dC, dI) clx [(h0, .inr (15, (fs.set 0 (.int 1))))] t.heap) (va_A [(h0, .inr (15, fs))] sz)) 0 0 (va_A [(h0, .inr (15, fs))] sz) := by
  refine Met.ofW (cc := cX15_mirror) (maxL := 2) (ret := (some .int)) (by decide) rfl ?_
  intro p e s m args below meth c s₁ B hml hv
  obtain ⟨rfl, hsz, hP, hK, hD0⟩ := hv
  have hx := B.exec
  have hb := B.bytes
  have hr := B.returns
  have hts := atoms_spec (ws := wk_X15_mirror) B.pre
  have hu : ∀ w ∈ wU, w.before ([.ref h0, .int c0] : List Value).toArray s = true := fun w h => hts w (List.mem_cons_of_mem _ h)
  have hown : s.vm.findClass RX15 = some m.cls := findClass_of_methodNamed B.named
  have hlocks := B.notSynchronized
  subst hsz
  have hD := va_D1 (sz := s.heap.size) h0 (.inr (15, fs))
  generalize hAe : va_A [(h0, .inr (15, fs))] s.heap.size = A at hD ⊢
  have hA : ∀ q : Nat, s.heap.size ≤ q → A q := fun q h => by rw [← hAe]; exact Or.inr h
  have hS : va_S A s.heap s.heap [] := va_S.rf
  have hl := lv_entry ([.ref h0, .int c0]) (n := 2) (Nat.le_of_ble_eq_true rfl)
  rw [lg_entry_eq]
  generalize (lg_sl ([.ref h0, .int c0]) ++ List.replicate (2 - (lg_sl ([.ref h0, .int c0])).length) Slot.unset).toArray = ls at hl ⊢
  have hl : lv_has ls 2 [(0, .ref h0), (1, .int c0)] := hl
  refine lv_aload_n hx hb dX15_mirror_0 rfl (lv_at hl 0 rfl) ?_
  refine lv_iload_n hx hb dX15_mirror_1 rfl (lv_at hl 1 rfl) ?_
  have hFc := va_free (wc := [(h0, .inr (15, fs))]) hD hS hA [0] rfl
  refine va_calli (va_runV (As := [.int c0]) (rest := []) ⟨hx, hb, hml, hown, hu⟩ (m_X15_isPoint l dC dI h0 _ fs (c0) hf) (cwV 1 hu (gV u238 u239 u240 u236 u241) rfl rfl rfl (by decide +kernel) ⟨(Nat.le_of_ble_eq_true rfl), (Nat.le_of_ble_eq_true rfl)⟩) ⟨mP_blind, va_recv hK hP (ci := 15) (q0 := 0) rfl rfl, mP_at hP hK hD⟩ rfl rfl hl.1 rfl (lv_room (Nat.le_of_ble_eq_true rfl)) dX15_mirror_2 ⟨Nat.zero_le _, Nat.zero_le _⟩) hS (fun q _ h => hFc q h) hFc (fun r1 u9 t H1 locs ht hvm hw hB hz1 hk1 hS => ?_)
  have hw : r1 = 0 := hw
  subst hw
  have hP : va_P (dC, dI) clx [(h0, .inr (15, (fs.set 0 (.int 1))))] t.heap := hB
  rw [ht] at hP
  refine lv_if_ne (tgt := 10) hx hb dX15_mirror_5 (by decide) (fun h9 => absurd (by decide) h9) (fun _ => ?_)
  refine lv_iconst (v := 0) hx hb dX15_mirror_8 (by decide) ?_
  exact W.iret (v := 0) hx hb hr (fun t ht hW => ⟨⟨0, (), rfl, rfl, by show va_P _ _ _ t.heap; rw [ht]; exact hP⟩, hS.F ht⟩) hS.2.2 dX15_mirror_9
def wk_X15_times : List Cond := .code yX15_times cX15_times 3 (some .int) :: wU
set_option maxHeartbeats 4000000 in
set_option maxRecDepth 100000 in
theorem m_X15_times (l : Launch) (dC : Nat → ClassId) (dI : Nat → Nat → Nat) (h0 sz : Nat) (fs : List Value) (c0 d0 : Int32) (hf : mF fs) : Met l yX15_times wk_X15_times ({ frames := 3, cells := 0, slots := 0, locals := 81 } : Room) (mP dC dI [(h0, .inr (15, fs))] [] sz [.ref h0, .int c0, .int d0]) (va_Qi (S := Unit) (fun r _ => r = 0) (fun _ t => va_P (dC, dI) clx [(h0, .inr (15, (fs.set 0 (.int 1))))] t.heap) (va_A [(h0, .inr (15, fs))] sz)) 0 0 (va_A [(h0, .inr (15, fs))] sz) := by
  refine Met.ofW (cc := cX15_times) (maxL := 3) (ret := (some .int)) (by decide) rfl ?_
  intro p e s m args below meth c s₁ B hml hv
  obtain ⟨rfl, hsz, hP, hK, hD0⟩ := hv
  have hx := B.exec
  have hb := B.bytes
  have hr := B.returns
  have hts := atoms_spec (ws := wk_X15_times) B.pre
  have hu : ∀ w ∈ wU, w.before ([.ref h0, .int c0, .int d0] : List Value).toArray s = true := fun w h => hts w (List.mem_cons_of_mem _ h)
  have hown : s.vm.findClass RX15 = some m.cls := findClass_of_methodNamed B.named
  have hlocks := B.notSynchronized
  subst hsz
  have hD := va_D1 (sz := s.heap.size) h0 (.inr (15, fs))
  generalize hAe : va_A [(h0, .inr (15, fs))] s.heap.size = A at hD ⊢
  have hA : ∀ q : Nat, s.heap.size ≤ q → A q := fun q h => by rw [← hAe]; exact Or.inr h
  have hS : va_S A s.heap s.heap [] := va_S.rf
  have hl := lv_entry ([.ref h0, .int c0, .int d0]) (n := 3) (Nat.le_of_ble_eq_true rfl)
  rw [lg_entry_eq]
  generalize (lg_sl ([.ref h0, .int c0, .int d0]) ++ List.replicate (3 - (lg_sl ([.ref h0, .int c0, .int d0])).length) Slot.unset).toArray = ls at hl ⊢
  have hl : lv_has ls 3 [(0, .ref h0), (1, .int c0), (2, .int d0)] := hl
  refine lv_aload_n hx hb dX15_times_0 rfl (lv_at hl 0 rfl) ?_
  refine lv_iload_n hx hb dX15_times_1 rfl (lv_at hl 1 rfl) ?_
  have hFc := va_free (wc := [(h0, .inr (15, fs))]) hD hS hA [0] rfl
  refine va_calli (va_runV (As := [.int c0]) (rest := []) ⟨hx, hb, hml, hown, hu⟩ (m_X15_isPoint l dC dI h0 _ fs (c0) hf) (cwV 1 hu (gV u238 u239 u240 u236 u241) rfl rfl rfl (by decide +kernel) ⟨(Nat.le_of_ble_eq_true rfl), (Nat.le_of_ble_eq_true rfl)⟩) ⟨mP_blind, va_recv hK hP (ci := 15) (q0 := 0) rfl rfl, mP_at hP hK hD⟩ rfl rfl hl.1 rfl (lv_room (Nat.le_of_ble_eq_true rfl)) dX15_times_2 ⟨Nat.zero_le _, Nat.zero_le _⟩) hS (fun q _ h => hFc q h) hFc (fun r1 u9 t H1 locs ht hvm hw hB hz1 hk1 hS => ?_)
  have hw : r1 = 0 := hw
  subst hw
  have hP : va_P (dC, dI) clx [(h0, .inr (15, (fs.set 0 (.int 1))))] t.heap := hB
  rw [ht] at hP
  refine lv_if_eq (tgt := 46) hx hb dX15_times_5 (by decide) (fun _ => ?_) (fun h9 => absurd (by decide) h9)
  refine lv_iconst (v := 0) hx hb dX15_times_46 (by decide) ?_
  exact W.iret (v := 0) hx hb hr (fun t ht hW => ⟨⟨0, (), rfl, rfl, by show va_P _ _ _ t.heap; rw [ht]; exact hP⟩, hS.F ht⟩) hS.2.2 dX15_times_47
def wk_X15_order : List Cond := .code yX15_order cX15_order 2 (some .int) :: wU
set_option maxHeartbeats 4000000 in
set_option maxRecDepth 100000 in
theorem m_X15_order (l : Launch) (dC : Nat → ClassId) (dI : Nat → Nat → Nat) (h0 sz : Nat) (fs : List Value) (c0 : Int32) (hf : mF fs) : Met l yX15_order wk_X15_order ({ frames := 3, cells := 0, slots := 0, locals := 81 } : Room) (mP dC dI [(h0, .inr (15, fs))] [] sz [.ref h0, .int c0]) (va_Qi (S := Unit) (fun r _ => r = 0) (fun _ t => va_P (dC, dI) clx [(h0, .inr (15, (fs.set 0 (.int 1))))] t.heap) (va_A [(h0, .inr (15, fs))] sz)) 0 0 (va_A [(h0, .inr (15, fs))] sz) := by
  refine Met.ofW (cc := cX15_order) (maxL := 2) (ret := (some .int)) (by decide) rfl ?_
  intro p e s m args below meth c s₁ B hml hv
  obtain ⟨rfl, hsz, hP, hK, hD0⟩ := hv
  have hx := B.exec
  have hb := B.bytes
  have hr := B.returns
  have hts := atoms_spec (ws := wk_X15_order) B.pre
  have hu : ∀ w ∈ wU, w.before ([.ref h0, .int c0] : List Value).toArray s = true := fun w h => hts w (List.mem_cons_of_mem _ h)
  have hown : s.vm.findClass RX15 = some m.cls := findClass_of_methodNamed B.named
  have hlocks := B.notSynchronized
  subst hsz
  have hD := va_D1 (sz := s.heap.size) h0 (.inr (15, fs))
  generalize hAe : va_A [(h0, .inr (15, fs))] s.heap.size = A at hD ⊢
  have hA : ∀ q : Nat, s.heap.size ≤ q → A q := fun q h => by rw [← hAe]; exact Or.inr h
  have hS : va_S A s.heap s.heap [] := va_S.rf
  have hl := lv_entry ([.ref h0, .int c0]) (n := 2) (Nat.le_of_ble_eq_true rfl)
  rw [lg_entry_eq]
  generalize (lg_sl ([.ref h0, .int c0]) ++ List.replicate (2 - (lg_sl ([.ref h0, .int c0])).length) Slot.unset).toArray = ls at hl ⊢
  have hl : lv_has ls 2 [(0, .ref h0), (1, .int c0)] := hl
  refine lv_aload_n hx hb dX15_order_0 rfl (lv_at hl 0 rfl) ?_
  refine lv_iload_n hx hb dX15_order_1 rfl (lv_at hl 1 rfl) ?_
  have hFc := va_free (wc := [(h0, .inr (15, fs))]) hD hS hA [0] rfl
  refine va_calli (va_runV (As := [.int c0]) (rest := []) ⟨hx, hb, hml, hown, hu⟩ (m_X15_isPoint l dC dI h0 _ fs (c0) hf) (cwV 1 hu (gV u238 u239 u240 u236 u241) rfl rfl rfl (by decide +kernel) ⟨(Nat.le_of_ble_eq_true rfl), (Nat.le_of_ble_eq_true rfl)⟩) ⟨mP_blind, va_recv hK hP (ci := 15) (q0 := 0) rfl rfl, mP_at hP hK hD⟩ rfl rfl hl.1 rfl (lv_room (Nat.le_of_ble_eq_true rfl)) dX15_order_2 ⟨Nat.zero_le _, Nat.zero_le _⟩) hS (fun q _ h => hFc q h) hFc (fun r1 u9 t H1 locs ht hvm hw hB hz1 hk1 hS => ?_)
  have hw : r1 = 0 := hw
  subst hw
  have hP : va_P (dC, dI) clx [(h0, .inr (15, (fs.set 0 (.int 1))))] t.heap := hB
  rw [ht] at hP
  refine lv_if_ne (tgt := 10) hx hb dX15_order_5 (by decide) (fun h9 => absurd (by decide) h9) (fun _ => ?_)
  refine lv_iconst (v := 0) hx hb dX15_order_8 (by decide) ?_
  exact W.iret (v := 0) hx hb hr (fun t ht hW => ⟨⟨0, (), rfl, rfl, by show va_P _ _ _ t.heap; rw [ht]; exact hP⟩, hS.F ht⟩) hS.2.2 dX15_order_9
def wk_X15_told : List Cond := .code yX15_told cX15_told 3 (some .int) :: wU
set_option maxHeartbeats 4000000 in
set_option maxRecDepth 100000 in
theorem m_X15_told (l : Launch) (dC : Nat → ClassId) (dI : Nat → Nat → Nat) (h0 sz : Nat) (fs : List Value) (c0 d0 : Int32) (hf : mF fs) : Met l yX15_told wk_X15_told ({ frames := 3, cells := 0, slots := 0, locals := 81 } : Room) (mP dC dI [(h0, .inr (15, fs))] [] sz [.ref h0, .int c0, .int d0]) (va_Qi (S := Unit) (fun r _ => r = 0) (fun _ t => va_P (dC, dI) clx [(h0, .inr (15, (fs.set 0 (.int 1))))] t.heap) (va_A [(h0, .inr (15, fs))] sz)) 0 0 (va_A [(h0, .inr (15, fs))] sz) := by
  refine Met.ofW (cc := cX15_told) (maxL := 3) (ret := (some .int)) (by decide) rfl ?_
  intro p e s m args below meth c s₁ B hml hv
  obtain ⟨rfl, hsz, hP, hK, hD0⟩ := hv
  have hx := B.exec
  have hb := B.bytes
  have hr := B.returns
  have hts := atoms_spec (ws := wk_X15_told) B.pre
  have hu : ∀ w ∈ wU, w.before ([.ref h0, .int c0, .int d0] : List Value).toArray s = true := fun w h => hts w (List.mem_cons_of_mem _ h)
  have hown : s.vm.findClass RX15 = some m.cls := findClass_of_methodNamed B.named
  have hlocks := B.notSynchronized
  subst hsz
  have hD := va_D1 (sz := s.heap.size) h0 (.inr (15, fs))
  generalize hAe : va_A [(h0, .inr (15, fs))] s.heap.size = A at hD ⊢
  have hA : ∀ q : Nat, s.heap.size ≤ q → A q := fun q h => by rw [← hAe]; exact Or.inr h
  have hS : va_S A s.heap s.heap [] := va_S.rf
  have hl := lv_entry ([.ref h0, .int c0, .int d0]) (n := 3) (Nat.le_of_ble_eq_true rfl)
  rw [lg_entry_eq]
  generalize (lg_sl ([.ref h0, .int c0, .int d0]) ++ List.replicate (3 - (lg_sl ([.ref h0, .int c0, .int d0])).length) Slot.unset).toArray = ls at hl ⊢
  have hl : lv_has ls 3 [(0, .ref h0), (1, .int c0), (2, .int d0)] := hl
  refine lv_aload_n hx hb dX15_told_0 rfl (lv_at hl 0 rfl) ?_
  refine lv_iload_n hx hb dX15_told_1 rfl (lv_at hl 1 rfl) ?_
  have hFc := va_free (wc := [(h0, .inr (15, fs))]) hD hS hA [0] rfl
  refine va_calli (va_runV (As := [.int c0]) (rest := []) ⟨hx, hb, hml, hown, hu⟩ (m_X15_isPoint l dC dI h0 _ fs (c0) hf) (cwV 1 hu (gV u238 u239 u240 u236 u241) rfl rfl rfl (by decide +kernel) ⟨(Nat.le_of_ble_eq_true rfl), (Nat.le_of_ble_eq_true rfl)⟩) ⟨mP_blind, va_recv hK hP (ci := 15) (q0 := 0) rfl rfl, mP_at hP hK hD⟩ rfl rfl hl.1 rfl (lv_room (Nat.le_of_ble_eq_true rfl)) dX15_told_2 ⟨Nat.zero_le _, Nat.zero_le _⟩) hS (fun q _ h => hFc q h) hFc (fun r1 u9 t H1 locs ht hvm hw hB hz1 hk1 hS => ?_)
  have hw : r1 = 0 := hw
  subst hw
  have hP : va_P (dC, dI) clx [(h0, .inr (15, (fs.set 0 (.int 1))))] t.heap := hB
  rw [ht] at hP
  refine lv_if_eq (tgt := 29) hx hb dX15_told_5 (by decide) (fun _ => ?_) (fun h9 => absurd (by decide) h9)
  refine lv_iconst (v := 0) hx hb dX15_told_29 (by decide) ?_
  exact W.iret (v := 0) hx hb hr (fun t ht hW => ⟨⟨0, (), rfl, rfl, by show va_P _ _ _ t.heap; rw [ht]; exact hP⟩, hS.F ht⟩) hS.2.2 dX15_told_30
def wk_X15_print : List Cond := .code yX15_print cX15_print 4 (some .int) :: wU
set_option maxHeartbeats 4000000 in
set_option maxRecDepth 100000 in
theorem m_X15_print (l : Launch) (dC : Nat → ClassId) (dI : Nat → Nat → Nat) (h0 sz : Nat) (fs : List Value) (c0 d0 : Int32) (hf : mF fs) : Met l yX15_print wk_X15_print ({ frames := 3, cells := 0, slots := 0, locals := 81 } : Room) (mP dC dI [(h0, .inr (15, fs))] [] sz [.ref h0, .int c0, .int d0]) (va_Qi (S := Unit) (fun r _ => r = 0) (fun _ t => va_P (dC, dI) clx [(h0, .inr (15, (fs.set 0 (.int 1))))] t.heap) (va_A [(h0, .inr (15, fs))] sz)) 0 0 (va_A [(h0, .inr (15, fs))] sz) := by
  refine Met.ofW (cc := cX15_print) (maxL := 4) (ret := (some .int)) (by decide) rfl ?_
  intro p e s m args below meth c s₁ B hml hv
  obtain ⟨rfl, hsz, hP, hK, hD0⟩ := hv
  have hx := B.exec
  have hb := B.bytes
  have hr := B.returns
  have hts := atoms_spec (ws := wk_X15_print) B.pre
  have hu : ∀ w ∈ wU, w.before ([.ref h0, .int c0, .int d0] : List Value).toArray s = true := fun w h => hts w (List.mem_cons_of_mem _ h)
  have hown : s.vm.findClass RX15 = some m.cls := findClass_of_methodNamed B.named
  have hlocks := B.notSynchronized
  subst hsz
  have hD := va_D1 (sz := s.heap.size) h0 (.inr (15, fs))
  generalize hAe : va_A [(h0, .inr (15, fs))] s.heap.size = A at hD ⊢
  have hA : ∀ q : Nat, s.heap.size ≤ q → A q := fun q h => by rw [← hAe]; exact Or.inr h
  have hS : va_S A s.heap s.heap [] := va_S.rf
  have hl := lv_entry ([.ref h0, .int c0, .int d0]) (n := 4) (Nat.le_of_ble_eq_true rfl)
  rw [lg_entry_eq]
  generalize (lg_sl ([.ref h0, .int c0, .int d0]) ++ List.replicate (4 - (lg_sl ([.ref h0, .int c0, .int d0])).length) Slot.unset).toArray = ls at hl ⊢
  have hl : lv_has ls 4 [(0, .ref h0), (1, .int c0), (2, .int d0)] := hl
  refine lv_aload_n hx hb dX15_print_0 rfl (lv_at hl 0 rfl) ?_
  refine lv_iload_n hx hb dX15_print_1 rfl (lv_at hl 1 rfl) ?_
  have hFc := va_free (wc := [(h0, .inr (15, fs))]) hD hS hA [0] rfl
  refine va_calli (va_runV (As := [.int c0]) (rest := []) ⟨hx, hb, hml, hown, hu⟩ (m_X15_isPoint l dC dI h0 _ fs (c0) hf) (cwV 1 hu (gV u238 u239 u240 u236 u241) rfl rfl rfl (by decide +kernel) ⟨(Nat.le_of_ble_eq_true rfl), (Nat.le_of_ble_eq_true rfl)⟩) ⟨mP_blind, va_recv hK hP (ci := 15) (q0 := 0) rfl rfl, mP_at hP hK hD⟩ rfl rfl hl.1 rfl (lv_room (Nat.le_of_ble_eq_true rfl)) dX15_print_2 ⟨Nat.zero_le _, Nat.zero_le _⟩) hS (fun q _ h => hFc q h) hFc (fun r1 u9 t H1 locs ht hvm hw hB hz1 hk1 hS => ?_)
  have hw : r1 = 0 := hw
  subst hw
  have hP : va_P (dC, dI) clx [(h0, .inr (15, (fs.set 0 (.int 1))))] t.heap := hB
  rw [ht] at hP
  refine lv_if_eq (tgt := 29) hx hb dX15_print_5 (by decide) (fun _ => ?_) (fun h9 => absurd (by decide) h9)
  refine lv_iconst (v := 0) hx hb dX15_print_29 (by decide) ?_
  exact W.iret (v := 0) hx hb hr (fun t ht hW => ⟨⟨0, (), rfl, rfl, by show va_P _ _ _ t.heap; rw [ht]; exact hP⟩, hS.F ht⟩) hS.2.2 dX15_print_30
def wk_X15_back : List Cond := .code yX15_back cX15_back 2 (some .int) :: wU
set_option maxHeartbeats 4000000 in
set_option maxRecDepth 100000 in
theorem m_X15_back (l : Launch) (dC : Nat → ClassId) (dI : Nat → Nat → Nat) (h0 sz : Nat) (fs : List Value) (c0 : Int32) (hf : mF fs) : Met l yX15_back wk_X15_back ({ frames := 3, cells := 0, slots := 0, locals := 81 } : Room) (mP dC dI [(h0, .inr (15, fs))] [] sz [.ref h0, .int c0]) (va_Qi (S := Unit) (fun r _ => r = 0) (fun _ t => va_P (dC, dI) clx [(h0, .inr (15, (fs.set 0 (.int 1))))] t.heap) (va_A [(h0, .inr (15, fs))] sz)) 0 0 (va_A [(h0, .inr (15, fs))] sz) := by
  refine Met.ofW (cc := cX15_back) (maxL := 2) (ret := (some .int)) (by decide) rfl ?_
  intro p e s m args below meth c s₁ B hml hv
  obtain ⟨rfl, hsz, hP, hK, hD0⟩ := hv
  have hx := B.exec
  have hb := B.bytes
  have hr := B.returns
  have hts := atoms_spec (ws := wk_X15_back) B.pre
  have hu : ∀ w ∈ wU, w.before ([.ref h0, .int c0] : List Value).toArray s = true := fun w h => hts w (List.mem_cons_of_mem _ h)
  have hown : s.vm.findClass RX15 = some m.cls := findClass_of_methodNamed B.named
  have hlocks := B.notSynchronized
  subst hsz
  have hD := va_D1 (sz := s.heap.size) h0 (.inr (15, fs))
  generalize hAe : va_A [(h0, .inr (15, fs))] s.heap.size = A at hD ⊢
  have hA : ∀ q : Nat, s.heap.size ≤ q → A q := fun q h => by rw [← hAe]; exact Or.inr h
  have hS : va_S A s.heap s.heap [] := va_S.rf
  have hl := lv_entry ([.ref h0, .int c0]) (n := 2) (Nat.le_of_ble_eq_true rfl)
  rw [lg_entry_eq]
  generalize (lg_sl ([.ref h0, .int c0]) ++ List.replicate (2 - (lg_sl ([.ref h0, .int c0])).length) Slot.unset).toArray = ls at hl ⊢
  have hl : lv_has ls 2 [(0, .ref h0), (1, .int c0)] := hl
  refine lv_aload_n hx hb dX15_back_0 rfl (lv_at hl 0 rfl) ?_
  refine lv_iload_n hx hb dX15_back_1 rfl (lv_at hl 1 rfl) ?_
  have hFc := va_free (wc := [(h0, .inr (15, fs))]) hD hS hA [0] rfl
  refine va_calli (va_runV (As := [.int c0]) (rest := []) ⟨hx, hb, hml, hown, hu⟩ (m_X15_isCubic l dC dI h0 _ fs (c0) hf) (cwV 1 hu (gV u233 u234 u235 u236 u237) rfl rfl rfl (by decide +kernel) ⟨(Nat.le_of_ble_eq_true rfl), (Nat.le_of_ble_eq_true rfl)⟩) ⟨mP_blind, va_recv hK hP (ci := 15) (q0 := 0) rfl rfl, mP_at hP hK hD⟩ rfl rfl hl.1 rfl (lv_room (Nat.le_of_ble_eq_true rfl)) dX15_back_2 ⟨Nat.zero_le _, Nat.zero_le _⟩) hS (fun q _ h => hFc q h) hFc (fun r1 u9 t H1 locs ht hvm hw hB hz1 hk1 hS => ?_)
  have hw : r1 = 0 := hw
  subst hw
  have hP : va_P (dC, dI) clx [(h0, .inr (15, (fs.set 0 (.int 1))))] t.heap := hB
  rw [ht] at hP
  refine lv_if_eq (tgt := 29) hx hb dX15_back_5 (by decide) (fun _ => ?_) (fun h9 => absurd (by decide) h9)
  refine lv_iconst (v := 0) hx hb dX15_back_29 (by decide) ?_
  exact W.iret (v := 0) hx hb hr (fun t ht hW => ⟨⟨0, (), rfl, rfl, by show va_P _ _ _ t.heap; rw [ht]; exact hP⟩, hS.F ht⟩) hS.2.2 dX15_back_30
def wk_X15_backAt : List Cond := .code yX15_backAt cX15_backAt 3 (some .int) :: wU
set_option maxHeartbeats 4000000 in
set_option maxRecDepth 100000 in
theorem m_X15_backAt (l : Launch) (dC : Nat → ClassId) (dI : Nat → Nat → Nat) (h0 sz : Nat) (fs : List Value) (c0 d0 : Int32) (hf : mF fs) : Met l yX15_backAt wk_X15_backAt ({ frames := 3, cells := 0, slots := 0, locals := 81 } : Room) (mP dC dI [(h0, .inr (15, fs))] [] sz [.ref h0, .int c0, .int d0]) (va_Qi (S := Unit) (fun r _ => r = 0) (fun _ t => va_P (dC, dI) clx [(h0, .inr (15, (fs.set 0 (.int 1))))] t.heap) (va_A [(h0, .inr (15, fs))] sz)) 0 0 (va_A [(h0, .inr (15, fs))] sz) := by
  refine Met.ofW (cc := cX15_backAt) (maxL := 3) (ret := (some .int)) (by decide) rfl ?_
  intro p e s m args below meth c s₁ B hml hv
  obtain ⟨rfl, hsz, hP, hK, hD0⟩ := hv
  have hx := B.exec
  have hb := B.bytes
  have hr := B.returns
  have hts := atoms_spec (ws := wk_X15_backAt) B.pre
  have hu : ∀ w ∈ wU, w.before ([.ref h0, .int c0, .int d0] : List Value).toArray s = true := fun w h => hts w (List.mem_cons_of_mem _ h)
  have hown : s.vm.findClass RX15 = some m.cls := findClass_of_methodNamed B.named
  have hlocks := B.notSynchronized
  subst hsz
  have hD := va_D1 (sz := s.heap.size) h0 (.inr (15, fs))
  generalize hAe : va_A [(h0, .inr (15, fs))] s.heap.size = A at hD ⊢
  have hA : ∀ q : Nat, s.heap.size ≤ q → A q := fun q h => by rw [← hAe]; exact Or.inr h
  have hS : va_S A s.heap s.heap [] := va_S.rf
  have hl := lv_entry ([.ref h0, .int c0, .int d0]) (n := 3) (Nat.le_of_ble_eq_true rfl)
  rw [lg_entry_eq]
  generalize (lg_sl ([.ref h0, .int c0, .int d0]) ++ List.replicate (3 - (lg_sl ([.ref h0, .int c0, .int d0])).length) Slot.unset).toArray = ls at hl ⊢
  have hl : lv_has ls 3 [(0, .ref h0), (1, .int c0), (2, .int d0)] := hl
  refine lv_aload_n hx hb dX15_backAt_0 rfl (lv_at hl 0 rfl) ?_
  refine lv_iload_n hx hb dX15_backAt_1 rfl (lv_at hl 1 rfl) ?_
  have hFc := va_free (wc := [(h0, .inr (15, fs))]) hD hS hA [0] rfl
  refine va_calli (va_runV (As := [.int c0]) (rest := []) ⟨hx, hb, hml, hown, hu⟩ (m_X15_isCubic l dC dI h0 _ fs (c0) hf) (cwV 1 hu (gV u233 u234 u235 u236 u237) rfl rfl rfl (by decide +kernel) ⟨(Nat.le_of_ble_eq_true rfl), (Nat.le_of_ble_eq_true rfl)⟩) ⟨mP_blind, va_recv hK hP (ci := 15) (q0 := 0) rfl rfl, mP_at hP hK hD⟩ rfl rfl hl.1 rfl (lv_room (Nat.le_of_ble_eq_true rfl)) dX15_backAt_2 ⟨Nat.zero_le _, Nat.zero_le _⟩) hS (fun q _ h => hFc q h) hFc (fun r1 u9 t H1 locs ht hvm hw hB hz1 hk1 hS => ?_)
  have hw : r1 = 0 := hw
  subst hw
  have hP : va_P (dC, dI) clx [(h0, .inr (15, (fs.set 0 (.int 1))))] t.heap := hB
  rw [ht] at hP
  refine lv_if_eq (tgt := 29) hx hb dX15_backAt_5 (by decide) (fun _ => ?_) (fun h9 => absurd (by decide) h9)
  refine lv_iconst (v := 0) hx hb dX15_backAt_29 (by decide) ?_
  exact W.iret (v := 0) hx hb hr (fun t ht hW => ⟨⟨0, (), rfl, rfl, by show va_P _ _ _ t.heap; rw [ht]; exact hP⟩, hS.F ht⟩) hS.2.2 dX15_backAt_30
def wk_X15_search : List Cond := .code yX15_search cX15_search 9 (some .int) :: wU
set_option maxHeartbeats 4000000 in
set_option maxRecDepth 100000 in
theorem m_X15_search (l : Launch) (dC : Nat → ClassId) (dI : Nat → Nat → Nat) (h0 sz : Nat) (fs : List Value) (c0 d0 : Int32) (hf : mF fs) : Met l yX15_search wk_X15_search ({ frames := 3, cells := 0, slots := 0, locals := 81 } : Room) (mP dC dI [(h0, .inr (15, fs))] [] sz [.ref h0, .int c0, .int d0]) (va_Qi (S := Unit) (fun r _ => r = 0) (fun _ t => va_P (dC, dI) clx [(h0, .inr (15, (fs.set 0 (.int 1))))] t.heap) (va_A [(h0, .inr (15, fs))] sz)) 0 0 (va_A [(h0, .inr (15, fs))] sz) := by
  refine Met.ofW (cc := cX15_search) (maxL := 9) (ret := (some .int)) (by decide) rfl ?_
  intro p e s m args below meth c s₁ B hml hv
  obtain ⟨rfl, hsz, hP, hK, hD0⟩ := hv
  have hx := B.exec
  have hb := B.bytes
  have hr := B.returns
  have hts := atoms_spec (ws := wk_X15_search) B.pre
  have hu : ∀ w ∈ wU, w.before ([.ref h0, .int c0, .int d0] : List Value).toArray s = true := fun w h => hts w (List.mem_cons_of_mem _ h)
  have hown : s.vm.findClass RX15 = some m.cls := findClass_of_methodNamed B.named
  have hlocks := B.notSynchronized
  subst hsz
  have hD := va_D1 (sz := s.heap.size) h0 (.inr (15, fs))
  generalize hAe : va_A [(h0, .inr (15, fs))] s.heap.size = A at hD ⊢
  have hA : ∀ q : Nat, s.heap.size ≤ q → A q := fun q h => by rw [← hAe]; exact Or.inr h
  have hS : va_S A s.heap s.heap [] := va_S.rf
  have hl := lv_entry ([.ref h0, .int c0, .int d0]) (n := 9) (Nat.le_of_ble_eq_true rfl)
  rw [lg_entry_eq]
  generalize (lg_sl ([.ref h0, .int c0, .int d0]) ++ List.replicate (9 - (lg_sl ([.ref h0, .int c0, .int d0])).length) Slot.unset).toArray = ls at hl ⊢
  have hl : lv_has ls 9 [(0, .ref h0), (1, .int c0), (2, .int d0)] := hl
  refine lv_aload_n hx hb dX15_search_0 rfl (lv_at hl 0 rfl) ?_
  refine lv_iload_n hx hb dX15_search_1 rfl (lv_at hl 1 rfl) ?_
  have hFc := va_free (wc := [(h0, .inr (15, fs))]) hD hS hA [0] rfl
  refine va_calli (va_runV (As := [.int c0]) (rest := []) ⟨hx, hb, hml, hown, hu⟩ (m_X15_isCubic l dC dI h0 _ fs (c0) hf) (cwV 1 hu (gV u233 u234 u235 u236 u237) rfl rfl rfl (by decide +kernel) ⟨(Nat.le_of_ble_eq_true rfl), (Nat.le_of_ble_eq_true rfl)⟩) ⟨mP_blind, va_recv hK hP (ci := 15) (q0 := 0) rfl rfl, mP_at hP hK hD⟩ rfl rfl hl.1 rfl (lv_room (Nat.le_of_ble_eq_true rfl)) dX15_search_2 ⟨Nat.zero_le _, Nat.zero_le _⟩) hS (fun q _ h => hFc q h) hFc (fun r1 u9 t H1 locs ht hvm hw hB hz1 hk1 hS => ?_)
  have hw : r1 = 0 := hw
  subst hw
  have hP : va_P (dC, dI) clx [(h0, .inr (15, (fs.set 0 (.int 1))))] t.heap := hB
  rw [ht] at hP
  refine lv_if_eq (tgt := 41) hx hb dX15_search_5 (by decide) (fun _ => ?_) (fun h9 => absurd (by decide) h9)
  refine lv_iconst (v := 0) hx hb dX15_search_41 (by decide) ?_
  exact W.iret (v := 0) hx hb hr (fun t ht hW => ⟨⟨0, (), rfl, rfl, by show va_P _ _ _ t.heap; rw [ht]; exact hP⟩, hS.F ht⟩) hS.2.2 dX15_search_42
def wk_X15_count : List Cond := .code yX15_count cX15_count 2 (some .int) :: wU
set_option maxHeartbeats 4000000 in
set_option maxRecDepth 100000 in
theorem m_X15_count (l : Launch) (dC : Nat → ClassId) (dI : Nat → Nat → Nat) (h0 sz : Nat) (fs : List Value) (c0 : Int32) (hf : mF fs) : Met l yX15_count wk_X15_count ({ frames := 4, cells := 0, slots := 0, locals := 104 } : Room) (mP dC dI [(h0, .inr (15, fs))] [] sz [.ref h0, .int c0]) (va_Qi (S := Unit) (fun r _ => r = 0) (fun _ t => va_P (dC, dI) clx [(h0, .inr (15, (fs.set 0 (.int 1))))] t.heap) (va_A [(h0, .inr (15, fs))] sz)) 0 0 (va_A [(h0, .inr (15, fs))] sz) := by
  refine Met.ofW (cc := cX15_count) (maxL := 2) (ret := (some .int)) (by decide) rfl ?_
  intro p e s m args below meth c s₁ B hml hv
  obtain ⟨rfl, hsz, hP, hK, hD0⟩ := hv
  have hx := B.exec
  have hb := B.bytes
  have hr := B.returns
  have hts := atoms_spec (ws := wk_X15_count) B.pre
  have hu : ∀ w ∈ wU, w.before ([.ref h0, .int c0] : List Value).toArray s = true := fun w h => hts w (List.mem_cons_of_mem _ h)
  have hown : s.vm.findClass RX15 = some m.cls := findClass_of_methodNamed B.named
  have hlocks := B.notSynchronized
  subst hsz
  have hD := va_D1 (sz := s.heap.size) h0 (.inr (15, fs))
  generalize hAe : va_A [(h0, .inr (15, fs))] s.heap.size = A at hD ⊢
  have hA : ∀ q : Nat, s.heap.size ≤ q → A q := fun q h => by rw [← hAe]; exact Or.inr h
  have hS : va_S A s.heap s.heap [] := va_S.rf
  have hl := lv_entry ([.ref h0, .int c0]) (n := 2) (Nat.le_of_ble_eq_true rfl)
  rw [lg_entry_eq]
  generalize (lg_sl ([.ref h0, .int c0]) ++ List.replicate (2 - (lg_sl ([.ref h0, .int c0])).length) Slot.unset).toArray = ls at hl ⊢
  have hl : lv_has ls 2 [(0, .ref h0), (1, .int c0)] := hl
  refine lv_aload_n hx hb dX15_count_0 rfl (lv_at hl 0 rfl) ?_
  refine lv_iload_n hx hb dX15_count_1 rfl (lv_at hl 1 rfl) ?_
  refine lv_ldcw (v := 1000003) hx hb hown (hu _ u242) dX15_count_2 ?_
  refine lv_iconst (v := 0) hx hb dX15_count_5 (by decide) ?_
  have hFc := va_free (wc := [(h0, .inr (15, fs))]) hD hS hA [0] rfl
  refine va_calli (va_runV (As := [.int c0, .int 1000003, .int 0]) (rest := []) ⟨hx, hb, hml, hown, hu⟩ (m_X15_isRest l dC dI h0 _ fs (c0) (1000003) (0) hf) (cwV 3 hu (gV u243 u244 u245 u236 u246) rfl rfl rfl (by decide +kernel) ⟨(Nat.le_of_ble_eq_true rfl), (Nat.le_of_ble_eq_true rfl)⟩) ⟨mP_blind, va_recv hK hP (ci := 15) (q0 := 0) rfl rfl, mP_at hP hK hD⟩ rfl rfl hl.1 rfl (lv_room (Nat.le_of_ble_eq_true rfl)) dX15_count_6 ⟨Nat.zero_le _, Nat.zero_le _⟩) hS (fun q _ h => hFc q h) hFc (fun r1 u9 t H1 locs ht hvm hw hB hz1 hk1 hS => ?_)
  have hw : r1 = 0 := hw
  subst hw
  have hP : va_P (dC, dI) clx [(h0, .inr (15, (fs.set 0 (.int 1))))] t.heap := hB
  rw [ht] at hP
  refine lv_if_eq (tgt := 20) hx hb dX15_count_9 (by decide) (fun _ => ?_) (fun h9 => absurd (by decide) h9)
  refine lv_iconst (v := 0) hx hb dX15_count_20 (by decide) ?_
  exact W.iret (v := 0) hx hb hr (fun t ht hW => ⟨⟨0, (), rfl, rfl, by show va_P _ _ _ t.heap; rw [ht]; exact hP⟩, hS.F ht⟩) hS.2.2 dX15_count_21
def wk_X15_over : List Cond := .code yX15_over cX15_over 16 (some .long) :: wU
set_option maxHeartbeats 4000000 in
set_option maxRecDepth 100000 in
theorem m_X15_over (l : Launch) (dC : Nat → ClassId) (dI : Nat → Nat → Nat) (h0 sz : Nat) (fs : List Value) (c0 d0 : Int32) (hf : mF fs) : Met l yX15_over wk_X15_over ({ frames := 4, cells := 0, slots := 0, locals := 104 } : Room) (mP dC dI [(h0, .inr (15, fs))] [] sz [.ref h0, .int c0, .int d0]) (va_Ql (S := Unit) (fun r _ => r = 0) (fun _ t => va_P (dC, dI) clx [(h0, .inr (15, (fs.set 0 (.int 1))))] t.heap) (va_A [(h0, .inr (15, fs))] sz)) 0 0 (va_A [(h0, .inr (15, fs))] sz) := by
  refine Met.ofW (cc := cX15_over) (maxL := 16) (ret := (some .long)) (by decide) rfl ?_
  intro p e s m args below meth c s₁ B hml hv
  obtain ⟨rfl, hsz, hP, hK, hD0⟩ := hv
  have hx := B.exec
  have hb := B.bytes
  have hr := B.returns
  have hts := atoms_spec (ws := wk_X15_over) B.pre
  have hu : ∀ w ∈ wU, w.before ([.ref h0, .int c0, .int d0] : List Value).toArray s = true := fun w h => hts w (List.mem_cons_of_mem _ h)
  have hown : s.vm.findClass RX15 = some m.cls := findClass_of_methodNamed B.named
  have hlocks := B.notSynchronized
  subst hsz
  have hD := va_D1 (sz := s.heap.size) h0 (.inr (15, fs))
  generalize hAe : va_A [(h0, .inr (15, fs))] s.heap.size = A at hD ⊢
  have hA : ∀ q : Nat, s.heap.size ≤ q → A q := fun q h => by rw [← hAe]; exact Or.inr h
  have hS : va_S A s.heap s.heap [] := va_S.rf
  have hl := lv_entry ([.ref h0, .int c0, .int d0]) (n := 16) (Nat.le_of_ble_eq_true rfl)
  rw [lg_entry_eq]
  generalize (lg_sl ([.ref h0, .int c0, .int d0]) ++ List.replicate (16 - (lg_sl ([.ref h0, .int c0, .int d0])).length) Slot.unset).toArray = ls at hl ⊢
  have hl : lv_has ls 16 [(0, .ref h0), (1, .int c0), (2, .int d0)] := hl
  refine lv_aload_n hx hb dX15_over_0 rfl (lv_at hl 0 rfl) ?_
  refine lv_iload_n hx hb dX15_over_1 rfl (lv_at hl 1 rfl) ?_
  refine lv_ldcw (v := 1000003) hx hb hown (hu _ u242) dX15_over_2 ?_
  refine lv_iload_n hx hb dX15_over_5 rfl (lv_at hl 2 rfl) ?_
  refine lv_iconst (v := 1) hx hb dX15_over_6 (by decide) ?_
  refine lv_icmp_lt (tgt := 15) hx hb dX15_over_7 (by decide) (fun c1 => ?_) (fun c1 => ?_)
  · skip
    refine lv_iconst (v := 1) hx hb dX15_over_15 (by decide) ?_
    refine lv_goto (tgt := 20) hx hb dX15_over_16 (by decide) ?_
    have hFc := va_free (wc := [(h0, .inr (15, fs))]) hD hS hA [0] rfl
    refine va_calli (va_runV (As := [.int c0, .int 1000003, .int 1]) (rest := []) ⟨hx, hb, hml, hown, hu⟩ (m_X15_isRest l dC dI h0 _ fs (c0) (1000003) (1) hf) (cwV 3 hu (gV u243 u244 u245 u236 u246) rfl rfl rfl (by decide +kernel) ⟨(Nat.le_of_ble_eq_true rfl), (Nat.le_of_ble_eq_true rfl)⟩) ⟨mP_blind, va_recv hK hP (ci := 15) (q0 := 0) rfl rfl, mP_at hP hK hD⟩ rfl rfl hl.1 rfl (lv_room (Nat.le_of_ble_eq_true rfl)) dX15_over_20 ⟨Nat.zero_le _, Nat.zero_le _⟩) hS (fun q _ h => hFc q h) hFc (fun r2 u9 t H1 locs ht hvm hw hB hz1 hk1 hS => ?_)
    have hw : r2 = 0 := hw
    subst hw
    have hP : va_P (dC, dI) clx [(h0, .inr (15, (fs.set 0 (.int 1))))] t.heap := hB
    rw [ht] at hP
    refine lv_if_ne (tgt := 28) hx hb dX15_over_23 (by decide) (fun h9 => absurd (by decide) h9) (fun _ => ?_)
    refine lv_lconst (v := 0) hx hb dX15_over_26 (by decide) ?_
    exact W.lret (v := 0) hx hb hr (fun t ht hW => ⟨⟨0, (), rfl, rfl, by show va_P _ _ _ t.heap; rw [ht]; exact hP⟩, hS.F ht⟩) hS.2.2 dX15_over_27
  · skip
    refine lv_iload_n hx hb dX15_over_10 rfl (lv_at hl 2 rfl) ?_
    refine lv_iconst (v := 3) hx hb dX15_over_11 (by decide) ?_
    refine lv_icmp_le (tgt := 19) hx hb dX15_over_12 (by decide) (fun c3 => ?_) (fun c3 => ?_)
    · skip
      refine lv_iconst (v := 0) hx hb dX15_over_19 (by decide) ?_
      have hFc := va_free (wc := [(h0, .inr (15, fs))]) hD hS hA [0] rfl
      refine va_calli (va_runV (As := [.int c0, .int 1000003, .int 0]) (rest := []) ⟨hx, hb, hml, hown, hu⟩ (m_X15_isRest l dC dI h0 _ fs (c0) (1000003) (0) hf) (cwV 3 hu (gV u243 u244 u245 u236 u246) rfl rfl rfl (by decide +kernel) ⟨(Nat.le_of_ble_eq_true rfl), (Nat.le_of_ble_eq_true rfl)⟩) ⟨mP_blind, va_recv hK hP (ci := 15) (q0 := 0) rfl rfl, mP_at hP hK hD⟩ rfl rfl hl.1 rfl (lv_room (Nat.le_of_ble_eq_true rfl)) dX15_over_20 ⟨Nat.zero_le _, Nat.zero_le _⟩) hS (fun q _ h => hFc q h) hFc (fun r4 u9 t H1 locs ht hvm hw hB hz1 hk1 hS => ?_)
      have hw : r4 = 0 := hw
      subst hw
      have hP : va_P (dC, dI) clx [(h0, .inr (15, (fs.set 0 (.int 1))))] t.heap := hB
      rw [ht] at hP
      refine lv_if_ne (tgt := 28) hx hb dX15_over_23 (by decide) (fun h9 => absurd (by decide) h9) (fun _ => ?_)
      refine lv_lconst (v := 0) hx hb dX15_over_26 (by decide) ?_
      exact W.lret (v := 0) hx hb hr (fun t ht hW => ⟨⟨0, (), rfl, rfl, by show va_P _ _ _ t.heap; rw [ht]; exact hP⟩, hS.F ht⟩) hS.2.2 dX15_over_27
    · skip
      refine lv_iconst (v := 1) hx hb dX15_over_15 (by decide) ?_
      refine lv_goto (tgt := 20) hx hb dX15_over_16 (by decide) ?_
      have hFc := va_free (wc := [(h0, .inr (15, fs))]) hD hS hA [0] rfl
      refine va_calli (va_runV (As := [.int c0, .int 1000003, .int 1]) (rest := []) ⟨hx, hb, hml, hown, hu⟩ (m_X15_isRest l dC dI h0 _ fs (c0) (1000003) (1) hf) (cwV 3 hu (gV u243 u244 u245 u236 u246) rfl rfl rfl (by decide +kernel) ⟨(Nat.le_of_ble_eq_true rfl), (Nat.le_of_ble_eq_true rfl)⟩) ⟨mP_blind, va_recv hK hP (ci := 15) (q0 := 0) rfl rfl, mP_at hP hK hD⟩ rfl rfl hl.1 rfl (lv_room (Nat.le_of_ble_eq_true rfl)) dX15_over_20 ⟨Nat.zero_le _, Nat.zero_le _⟩) hS (fun q _ h => hFc q h) hFc (fun r5 u9 t H1 locs ht hvm hw hB hz1 hk1 hS => ?_)
      have hw : r5 = 0 := hw
      subst hw
      have hP : va_P (dC, dI) clx [(h0, .inr (15, (fs.set 0 (.int 1))))] t.heap := hB
      rw [ht] at hP
      refine lv_if_ne (tgt := 28) hx hb dX15_over_23 (by decide) (fun h9 => absurd (by decide) h9) (fun _ => ?_)
      refine lv_lconst (v := 0) hx hb dX15_over_26 (by decide) ?_
      exact W.lret (v := 0) hx hb hr (fun t ht hW => ⟨⟨0, (), rfl, rfl, by show va_P _ _ _ t.heap; rw [ht]; exact hP⟩, hS.F ht⟩) hS.2.2 dX15_over_27
def wk_X15_list : List Cond := .code yX15_list cX15_list 3 (some .int) :: wU
set_option maxHeartbeats 4000000 in
set_option maxRecDepth 100000 in
theorem m_X15_list (l : Launch) (dC : Nat → ClassId) (dI : Nat → Nat → Nat) (h0 sz : Nat) (fs : List Value) (c0 d0 : Int32) (hf : mF fs) : Met l yX15_list wk_X15_list ({ frames := 4, cells := 0, slots := 0, locals := 104 } : Room) (mP dC dI [(h0, .inr (15, fs))] [] sz [.ref h0, .int c0, .int d0]) (va_Qi (S := Unit) (fun r _ => r = 0) (fun _ t => va_P (dC, dI) clx [(h0, .inr (15, (fs.set 0 (.int 1))))] t.heap) (va_A [(h0, .inr (15, fs))] sz)) 0 0 (va_A [(h0, .inr (15, fs))] sz) := by
  refine Met.ofW (cc := cX15_list) (maxL := 3) (ret := (some .int)) (by decide) rfl ?_
  intro p e s m args below meth c s₁ B hml hv
  obtain ⟨rfl, hsz, hP, hK, hD0⟩ := hv
  have hx := B.exec
  have hb := B.bytes
  have hr := B.returns
  have hts := atoms_spec (ws := wk_X15_list) B.pre
  have hu : ∀ w ∈ wU, w.before ([.ref h0, .int c0, .int d0] : List Value).toArray s = true := fun w h => hts w (List.mem_cons_of_mem _ h)
  have hown : s.vm.findClass RX15 = some m.cls := findClass_of_methodNamed B.named
  have hlocks := B.notSynchronized
  subst hsz
  have hD := va_D1 (sz := s.heap.size) h0 (.inr (15, fs))
  generalize hAe : va_A [(h0, .inr (15, fs))] s.heap.size = A at hD ⊢
  have hA : ∀ q : Nat, s.heap.size ≤ q → A q := fun q h => by rw [← hAe]; exact Or.inr h
  have hS : va_S A s.heap s.heap [] := va_S.rf
  have hl := lv_entry ([.ref h0, .int c0, .int d0]) (n := 3) (Nat.le_of_ble_eq_true rfl)
  rw [lg_entry_eq]
  generalize (lg_sl ([.ref h0, .int c0, .int d0]) ++ List.replicate (3 - (lg_sl ([.ref h0, .int c0, .int d0])).length) Slot.unset).toArray = ls at hl ⊢
  have hl : lv_has ls 3 [(0, .ref h0), (1, .int c0), (2, .int d0)] := hl
  refine lv_aload_n hx hb dX15_list_0 rfl (lv_at hl 0 rfl) ?_
  refine lv_iload_n hx hb dX15_list_1 rfl (lv_at hl 1 rfl) ?_
  refine lv_sipush (v := 2000) hx hb dX15_list_2 (by decide) ?_
  refine lv_iconst (v := 0) hx hb dX15_list_5 (by decide) ?_
  have hFc := va_free (wc := [(h0, .inr (15, fs))]) hD hS hA [0] rfl
  refine va_calli (va_runV (As := [.int c0, .int 2000, .int 0]) (rest := []) ⟨hx, hb, hml, hown, hu⟩ (m_X15_isRest l dC dI h0 _ fs (c0) (2000) (0) hf) (cwV 3 hu (gV u243 u244 u245 u236 u246) rfl rfl rfl (by decide +kernel) ⟨(Nat.le_of_ble_eq_true rfl), (Nat.le_of_ble_eq_true rfl)⟩) ⟨mP_blind, va_recv hK hP (ci := 15) (q0 := 0) rfl rfl, mP_at hP hK hD⟩ rfl rfl hl.1 rfl (lv_room (Nat.le_of_ble_eq_true rfl)) dX15_list_6 ⟨Nat.zero_le _, Nat.zero_le _⟩) hS (fun q _ h => hFc q h) hFc (fun r1 u9 t H1 locs ht hvm hw hB hz1 hk1 hS => ?_)
  have hw : r1 = 0 := hw
  subst hw
  have hP : va_P (dC, dI) clx [(h0, .inr (15, (fs.set 0 (.int 1))))] t.heap := hB
  rw [ht] at hP
  refine lv_if_ne (tgt := 14) hx hb dX15_list_9 (by decide) (fun h9 => absurd (by decide) h9) (fun _ => ?_)
  refine lv_iconst (v := 0) hx hb dX15_list_12 (by decide) ?_
  exact W.iret (v := 0) hx hb hr (fun t ht hW => ⟨⟨0, (), rfl, rfl, by show va_P _ _ _ t.heap; rw [ht]; exact hP⟩, hS.F ht⟩) hS.2.2 dX15_list_13
def wk_X15_group : List Cond := .code yX15_group cX15_group 3 (some .int) :: wU
set_option maxHeartbeats 4000000 in
set_option maxRecDepth 100000 in
theorem m_X15_group (l : Launch) (dC : Nat → ClassId) (dI : Nat → Nat → Nat) (h0 sz : Nat) (fs : List Value) (c0 d0 : Int32) (hf : mF fs) : Met l yX15_group wk_X15_group ({ frames := 4, cells := 0, slots := 0, locals := 104 } : Room) (mP dC dI [(h0, .inr (15, fs))] [] sz [.ref h0, .int c0, .int d0]) (va_Qi (S := Unit) (fun r _ => r = 0) (fun _ t => va_P (dC, dI) clx [(h0, .inr (15, (fs.set 0 (.int 1))))] t.heap) (va_A [(h0, .inr (15, fs))] sz)) 0 0 (va_A [(h0, .inr (15, fs))] sz) := by
  refine Met.ofW (cc := cX15_group) (maxL := 3) (ret := (some .int)) (by decide) rfl ?_
  intro p e s m args below meth c s₁ B hml hv
  obtain ⟨rfl, hsz, hP, hK, hD0⟩ := hv
  have hx := B.exec
  have hb := B.bytes
  have hr := B.returns
  have hts := atoms_spec (ws := wk_X15_group) B.pre
  have hu : ∀ w ∈ wU, w.before ([.ref h0, .int c0, .int d0] : List Value).toArray s = true := fun w h => hts w (List.mem_cons_of_mem _ h)
  have hown : s.vm.findClass RX15 = some m.cls := findClass_of_methodNamed B.named
  have hlocks := B.notSynchronized
  subst hsz
  have hD := va_D1 (sz := s.heap.size) h0 (.inr (15, fs))
  generalize hAe : va_A [(h0, .inr (15, fs))] s.heap.size = A at hD ⊢
  have hA : ∀ q : Nat, s.heap.size ≤ q → A q := fun q h => by rw [← hAe]; exact Or.inr h
  have hS : va_S A s.heap s.heap [] := va_S.rf
  have hl := lv_entry ([.ref h0, .int c0, .int d0]) (n := 3) (Nat.le_of_ble_eq_true rfl)
  rw [lg_entry_eq]
  generalize (lg_sl ([.ref h0, .int c0, .int d0]) ++ List.replicate (3 - (lg_sl ([.ref h0, .int c0, .int d0])).length) Slot.unset).toArray = ls at hl ⊢
  have hl : lv_has ls 3 [(0, .ref h0), (1, .int c0), (2, .int d0)] := hl
  refine lv_aload_n hx hb dX15_group_0 rfl (lv_at hl 0 rfl) ?_
  refine lv_iload_n hx hb dX15_group_1 rfl (lv_at hl 1 rfl) ?_
  refine lv_sipush (v := 2000) hx hb dX15_group_2 (by decide) ?_
  refine lv_iload_n hx hb dX15_group_5 rfl (lv_at hl 2 rfl) ?_
  refine lv_if_lt (tgt := 14) hx hb dX15_group_6 (by decide) (fun c1 => ?_) (fun c1 => ?_)
  · skip
    refine lv_iconst (v := 1) hx hb dX15_group_14 (by decide) ?_
    refine lv_goto (tgt := 19) hx hb dX15_group_15 (by decide) ?_
    have hFc := va_free (wc := [(h0, .inr (15, fs))]) hD hS hA [0] rfl
    refine va_calli (va_runV (As := [.int c0, .int 2000, .int 1]) (rest := []) ⟨hx, hb, hml, hown, hu⟩ (m_X15_isRest l dC dI h0 _ fs (c0) (2000) (1) hf) (cwV 3 hu (gV u243 u244 u245 u236 u246) rfl rfl rfl (by decide +kernel) ⟨(Nat.le_of_ble_eq_true rfl), (Nat.le_of_ble_eq_true rfl)⟩) ⟨mP_blind, va_recv hK hP (ci := 15) (q0 := 0) rfl rfl, mP_at hP hK hD⟩ rfl rfl hl.1 rfl (lv_room (Nat.le_of_ble_eq_true rfl)) dX15_group_19 ⟨Nat.zero_le _, Nat.zero_le _⟩) hS (fun q _ h => hFc q h) hFc (fun r2 u9 t H1 locs ht hvm hw hB hz1 hk1 hS => ?_)
    have hw : r2 = 0 := hw
    subst hw
    have hP : va_P (dC, dI) clx [(h0, .inr (15, (fs.set 0 (.int 1))))] t.heap := hB
    rw [ht] at hP
    refine lv_if_ne (tgt := 27) hx hb dX15_group_22 (by decide) (fun h9 => absurd (by decide) h9) (fun _ => ?_)
    refine lv_iconst (v := 0) hx hb dX15_group_25 (by decide) ?_
    exact W.iret (v := 0) hx hb hr (fun t ht hW => ⟨⟨0, (), rfl, rfl, by show va_P _ _ _ t.heap; rw [ht]; exact hP⟩, hS.F ht⟩) hS.2.2 dX15_group_26
  · skip
    refine lv_iload_n hx hb dX15_group_9 rfl (lv_at hl 2 rfl) ?_
    refine lv_iconst (v := 3) hx hb dX15_group_10 (by decide) ?_
    refine lv_icmp_le (tgt := 18) hx hb dX15_group_11 (by decide) (fun c3 => ?_) (fun c3 => ?_)
    · skip
      refine lv_iconst (v := 0) hx hb dX15_group_18 (by decide) ?_
      have hFc := va_free (wc := [(h0, .inr (15, fs))]) hD hS hA [0] rfl
      refine va_calli (va_runV (As := [.int c0, .int 2000, .int 0]) (rest := []) ⟨hx, hb, hml, hown, hu⟩ (m_X15_isRest l dC dI h0 _ fs (c0) (2000) (0) hf) (cwV 3 hu (gV u243 u244 u245 u236 u246) rfl rfl rfl (by decide +kernel) ⟨(Nat.le_of_ble_eq_true rfl), (Nat.le_of_ble_eq_true rfl)⟩) ⟨mP_blind, va_recv hK hP (ci := 15) (q0 := 0) rfl rfl, mP_at hP hK hD⟩ rfl rfl hl.1 rfl (lv_room (Nat.le_of_ble_eq_true rfl)) dX15_group_19 ⟨Nat.zero_le _, Nat.zero_le _⟩) hS (fun q _ h => hFc q h) hFc (fun r4 u9 t H1 locs ht hvm hw hB hz1 hk1 hS => ?_)
      have hw : r4 = 0 := hw
      subst hw
      have hP : va_P (dC, dI) clx [(h0, .inr (15, (fs.set 0 (.int 1))))] t.heap := hB
      rw [ht] at hP
      refine lv_if_ne (tgt := 27) hx hb dX15_group_22 (by decide) (fun h9 => absurd (by decide) h9) (fun _ => ?_)
      refine lv_iconst (v := 0) hx hb dX15_group_25 (by decide) ?_
      exact W.iret (v := 0) hx hb hr (fun t ht hW => ⟨⟨0, (), rfl, rfl, by show va_P _ _ _ t.heap; rw [ht]; exact hP⟩, hS.F ht⟩) hS.2.2 dX15_group_26
    · skip
      refine lv_iconst (v := 1) hx hb dX15_group_14 (by decide) ?_
      refine lv_goto (tgt := 19) hx hb dX15_group_15 (by decide) ?_
      have hFc := va_free (wc := [(h0, .inr (15, fs))]) hD hS hA [0] rfl
      refine va_calli (va_runV (As := [.int c0, .int 2000, .int 1]) (rest := []) ⟨hx, hb, hml, hown, hu⟩ (m_X15_isRest l dC dI h0 _ fs (c0) (2000) (1) hf) (cwV 3 hu (gV u243 u244 u245 u236 u246) rfl rfl rfl (by decide +kernel) ⟨(Nat.le_of_ble_eq_true rfl), (Nat.le_of_ble_eq_true rfl)⟩) ⟨mP_blind, va_recv hK hP (ci := 15) (q0 := 0) rfl rfl, mP_at hP hK hD⟩ rfl rfl hl.1 rfl (lv_room (Nat.le_of_ble_eq_true rfl)) dX15_group_19 ⟨Nat.zero_le _, Nat.zero_le _⟩) hS (fun q _ h => hFc q h) hFc (fun r5 u9 t H1 locs ht hvm hw hB hz1 hk1 hS => ?_)
      have hw : r5 = 0 := hw
      subst hw
      have hP : va_P (dC, dI) clx [(h0, .inr (15, (fs.set 0 (.int 1))))] t.heap := hB
      rw [ht] at hP
      refine lv_if_ne (tgt := 27) hx hb dX15_group_22 (by decide) (fun h9 => absurd (by decide) h9) (fun _ => ?_)
      refine lv_iconst (v := 0) hx hb dX15_group_25 (by decide) ?_
      exact W.iret (v := 0) hx hb hr (fun t ht hW => ⟨⟨0, (), rfl, rfl, by show va_P _ _ _ t.heap; rw [ht]; exact hP⟩, hS.F ht⟩) hS.2.2 dX15_group_26
def wk_X15_pair : List Cond := .code yX15_pair cX15_pair 9 (some .int) :: wU
set_option maxHeartbeats 4000000 in
set_option maxRecDepth 100000 in
theorem m_X15_pair (l : Launch) (dC : Nat → ClassId) (dI : Nat → Nat → Nat) (h0 sz : Nat) (fs : List Value) (c0 d0 e0 : Int32) (hf : mF fs) : Met l yX15_pair wk_X15_pair ({ frames := 3, cells := 0, slots := 0, locals := 81 } : Room) (mP dC dI [(h0, .inr (15, fs))] [] sz [.ref h0, .int c0, .int d0, .int e0]) (va_Qi (S := Unit) (fun r _ => r = 0) (fun _ t => va_P (dC, dI) clx [(h0, .inr (15, (fs.set 0 (.int 1))))] t.heap) (va_A [(h0, .inr (15, fs))] sz)) 0 0 (va_A [(h0, .inr (15, fs))] sz) := by
  refine Met.ofW (cc := cX15_pair) (maxL := 9) (ret := (some .int)) (by decide) rfl ?_
  intro p e s m args below meth c s₁ B hml hv
  obtain ⟨rfl, hsz, hP, hK, hD0⟩ := hv
  have hx := B.exec
  have hb := B.bytes
  have hr := B.returns
  have hts := atoms_spec (ws := wk_X15_pair) B.pre
  have hu : ∀ w ∈ wU, w.before ([.ref h0, .int c0, .int d0, .int e0] : List Value).toArray s = true := fun w h => hts w (List.mem_cons_of_mem _ h)
  have hown : s.vm.findClass RX15 = some m.cls := findClass_of_methodNamed B.named
  have hlocks := B.notSynchronized
  subst hsz
  have hD := va_D1 (sz := s.heap.size) h0 (.inr (15, fs))
  generalize hAe : va_A [(h0, .inr (15, fs))] s.heap.size = A at hD ⊢
  have hA : ∀ q : Nat, s.heap.size ≤ q → A q := fun q h => by rw [← hAe]; exact Or.inr h
  have hS : va_S A s.heap s.heap [] := va_S.rf
  have hl := lv_entry ([.ref h0, .int c0, .int d0, .int e0]) (n := 9) (Nat.le_of_ble_eq_true rfl)
  rw [lg_entry_eq]
  generalize (lg_sl ([.ref h0, .int c0, .int d0, .int e0]) ++ List.replicate (9 - (lg_sl ([.ref h0, .int c0, .int d0, .int e0])).length) Slot.unset).toArray = ls at hl ⊢
  have hl : lv_has ls 9 [(0, .ref h0), (1, .int c0), (2, .int d0), (3, .int e0)] := hl
  refine lv_aload_n hx hb dX15_pair_0 rfl (lv_at hl 0 rfl) ?_
  refine lv_iload_n hx hb dX15_pair_1 rfl (lv_at hl 1 rfl) ?_
  have hFc := va_free (wc := [(h0, .inr (15, fs))]) hD hS hA [0] rfl
  refine va_calli (va_runV (As := [.int c0]) (rest := []) ⟨hx, hb, hml, hown, hu⟩ (m_X15_isPoint l dC dI h0 _ fs (c0) hf) (cwV 1 hu (gV u238 u239 u240 u236 u241) rfl rfl rfl (by decide +kernel) ⟨(Nat.le_of_ble_eq_true rfl), (Nat.le_of_ble_eq_true rfl)⟩) ⟨mP_blind, va_recv hK hP (ci := 15) (q0 := 0) rfl rfl, mP_at hP hK hD⟩ rfl rfl hl.1 rfl (lv_room (Nat.le_of_ble_eq_true rfl)) dX15_pair_2 ⟨Nat.zero_le _, Nat.zero_le _⟩) hS (fun q _ h => hFc q h) hFc (fun r1 u9 t H1 locs ht hvm hw hB hz1 hk1 hS => ?_)
  have hw : r1 = 0 := hw
  subst hw
  have hP : va_P (dC, dI) clx [(h0, .inr (15, (fs.set 0 (.int 1))))] t.heap := hB
  rw [ht] at hP
  refine lv_if_eq (tgt := 16) hx hb dX15_pair_5 (by decide) (fun _ => ?_) (fun h9 => absurd (by decide) h9)
  refine lv_iconst (v := 0) hx hb dX15_pair_16 (by decide) ?_
  exact W.iret (v := 0) hx hb hr (fun t ht hW => ⟨⟨0, (), rfl, rfl, by show va_P _ _ _ t.heap; rw [ht]; exact hP⟩, hS.F ht⟩) hS.2.2 dX15_pair_17
def wk_X15_polynomial : List Cond := .code yX15_polynomial cX15_polynomial 10 (some .int) :: wU
set_option maxHeartbeats 4000000 in
set_option maxRecDepth 100000 in
theorem m_X15_polynomial (l : Launch) (dC : Nat → ClassId) (dI : Nat → Nat → Nat) (h0 sz : Nat) (fs : List Value) (c0 d0 : Int32) (hf : mF fs) : Met l yX15_polynomial wk_X15_polynomial ({ frames := 4, cells := 0, slots := 0, locals := 104 } : Room) (mP dC dI [(h0, .inr (15, fs))] [] sz [.ref h0, .int c0, .int d0]) (va_Qi (S := Unit) (fun r _ => r = 0) (fun _ t => va_P (dC, dI) clx [(h0, .inr (15, (fs.set 0 (.int 1))))] t.heap) (va_A [(h0, .inr (15, fs))] sz)) 0 0 (va_A [(h0, .inr (15, fs))] sz) := by
  refine Met.ofW (cc := cX15_polynomial) (maxL := 10) (ret := (some .int)) (by decide) rfl ?_
  intro p e s m args below meth c s₁ B hml hv
  obtain ⟨rfl, hsz, hP, hK, hD0⟩ := hv
  have hx := B.exec
  have hb := B.bytes
  have hr := B.returns
  have hts := atoms_spec (ws := wk_X15_polynomial) B.pre
  have hu : ∀ w ∈ wU, w.before ([.ref h0, .int c0, .int d0] : List Value).toArray s = true := fun w h => hts w (List.mem_cons_of_mem _ h)
  have hown : s.vm.findClass RX15 = some m.cls := findClass_of_methodNamed B.named
  have hlocks := B.notSynchronized
  subst hsz
  have hD := va_D1 (sz := s.heap.size) h0 (.inr (15, fs))
  generalize hAe : va_A [(h0, .inr (15, fs))] s.heap.size = A at hD ⊢
  have hA : ∀ q : Nat, s.heap.size ≤ q → A q := fun q h => by rw [← hAe]; exact Or.inr h
  have hS : va_S A s.heap s.heap [] := va_S.rf
  have hl := lv_entry ([.ref h0, .int c0, .int d0]) (n := 10) (Nat.le_of_ble_eq_true rfl)
  rw [lg_entry_eq]
  generalize (lg_sl ([.ref h0, .int c0, .int d0]) ++ List.replicate (10 - (lg_sl ([.ref h0, .int c0, .int d0])).length) Slot.unset).toArray = ls at hl ⊢
  have hl : lv_has ls 10 [(0, .ref h0), (1, .int c0), (2, .int d0)] := hl
  refine lv_aload_n hx hb dX15_polynomial_0 rfl (lv_at hl 0 rfl) ?_
  refine lv_iload_n hx hb dX15_polynomial_1 rfl (lv_at hl 1 rfl) ?_
  refine lv_sipush (v := 2000) hx hb dX15_polynomial_2 (by decide) ?_
  refine lv_iload_n hx hb dX15_polynomial_5 rfl (lv_at hl 2 rfl) ?_
  refine lv_iconst (v := 1) hx hb dX15_polynomial_6 (by decide) ?_
  refine lv_icmp_lt (tgt := 16) hx hb dX15_polynomial_7 (by decide) (fun c1 => ?_) (fun c1 => ?_)
  · skip
    refine lv_iconst (v := 1) hx hb dX15_polynomial_16 (by decide) ?_
    refine lv_goto (tgt := 21) hx hb dX15_polynomial_17 (by decide) ?_
    have hFc := va_free (wc := [(h0, .inr (15, fs))]) hD hS hA [0] rfl
    refine va_calli (va_runV (As := [.int c0, .int 2000, .int 1]) (rest := []) ⟨hx, hb, hml, hown, hu⟩ (m_X15_isRest l dC dI h0 _ fs (c0) (2000) (1) hf) (cwV 3 hu (gV u243 u244 u245 u236 u246) rfl rfl rfl (by decide +kernel) ⟨(Nat.le_of_ble_eq_true rfl), (Nat.le_of_ble_eq_true rfl)⟩) ⟨mP_blind, va_recv hK hP (ci := 15) (q0 := 0) rfl rfl, mP_at hP hK hD⟩ rfl rfl hl.1 rfl (lv_room (Nat.le_of_ble_eq_true rfl)) dX15_polynomial_21 ⟨Nat.zero_le _, Nat.zero_le _⟩) hS (fun q _ h => hFc q h) hFc (fun r2 u9 t H1 locs ht hvm hw hB hz1 hk1 hS => ?_)
    have hw : r2 = 0 := hw
    subst hw
    have hP : va_P (dC, dI) clx [(h0, .inr (15, (fs.set 0 (.int 1))))] t.heap := hB
    rw [ht] at hP
    refine lv_if_ne (tgt := 29) hx hb dX15_polynomial_24 (by decide) (fun h9 => absurd (by decide) h9) (fun _ => ?_)
    refine lv_iconst (v := 0) hx hb dX15_polynomial_27 (by decide) ?_
    exact W.iret (v := 0) hx hb hr (fun t ht hW => ⟨⟨0, (), rfl, rfl, by show va_P _ _ _ t.heap; rw [ht]; exact hP⟩, hS.F ht⟩) hS.2.2 dX15_polynomial_28
  · skip
    refine lv_iload_n hx hb dX15_polynomial_10 rfl (lv_at hl 2 rfl) ?_
    refine lv_bipush (v := 11) hx hb dX15_polynomial_11 (by decide) ?_
    refine lv_icmp_le (tgt := 20) hx hb dX15_polynomial_13 (by decide) (fun c3 => ?_) (fun c3 => ?_)
    · skip
      refine lv_iconst (v := 0) hx hb dX15_polynomial_20 (by decide) ?_
      have hFc := va_free (wc := [(h0, .inr (15, fs))]) hD hS hA [0] rfl
      refine va_calli (va_runV (As := [.int c0, .int 2000, .int 0]) (rest := []) ⟨hx, hb, hml, hown, hu⟩ (m_X15_isRest l dC dI h0 _ fs (c0) (2000) (0) hf) (cwV 3 hu (gV u243 u244 u245 u236 u246) rfl rfl rfl (by decide +kernel) ⟨(Nat.le_of_ble_eq_true rfl), (Nat.le_of_ble_eq_true rfl)⟩) ⟨mP_blind, va_recv hK hP (ci := 15) (q0 := 0) rfl rfl, mP_at hP hK hD⟩ rfl rfl hl.1 rfl (lv_room (Nat.le_of_ble_eq_true rfl)) dX15_polynomial_21 ⟨Nat.zero_le _, Nat.zero_le _⟩) hS (fun q _ h => hFc q h) hFc (fun r4 u9 t H1 locs ht hvm hw hB hz1 hk1 hS => ?_)
      have hw : r4 = 0 := hw
      subst hw
      have hP : va_P (dC, dI) clx [(h0, .inr (15, (fs.set 0 (.int 1))))] t.heap := hB
      rw [ht] at hP
      refine lv_if_ne (tgt := 29) hx hb dX15_polynomial_24 (by decide) (fun h9 => absurd (by decide) h9) (fun _ => ?_)
      refine lv_iconst (v := 0) hx hb dX15_polynomial_27 (by decide) ?_
      exact W.iret (v := 0) hx hb hr (fun t ht hW => ⟨⟨0, (), rfl, rfl, by show va_P _ _ _ t.heap; rw [ht]; exact hP⟩, hS.F ht⟩) hS.2.2 dX15_polynomial_28
    · skip
      refine lv_iconst (v := 1) hx hb dX15_polynomial_16 (by decide) ?_
      refine lv_goto (tgt := 21) hx hb dX15_polynomial_17 (by decide) ?_
      have hFc := va_free (wc := [(h0, .inr (15, fs))]) hD hS hA [0] rfl
      refine va_calli (va_runV (As := [.int c0, .int 2000, .int 1]) (rest := []) ⟨hx, hb, hml, hown, hu⟩ (m_X15_isRest l dC dI h0 _ fs (c0) (2000) (1) hf) (cwV 3 hu (gV u243 u244 u245 u236 u246) rfl rfl rfl (by decide +kernel) ⟨(Nat.le_of_ble_eq_true rfl), (Nat.le_of_ble_eq_true rfl)⟩) ⟨mP_blind, va_recv hK hP (ci := 15) (q0 := 0) rfl rfl, mP_at hP hK hD⟩ rfl rfl hl.1 rfl (lv_room (Nat.le_of_ble_eq_true rfl)) dX15_polynomial_21 ⟨Nat.zero_le _, Nat.zero_le _⟩) hS (fun q _ h => hFc q h) hFc (fun r5 u9 t H1 locs ht hvm hw hB hz1 hk1 hS => ?_)
      have hw : r5 = 0 := hw
      subst hw
      have hP : va_P (dC, dI) clx [(h0, .inr (15, (fs.set 0 (.int 1))))] t.heap := hB
      rw [ht] at hP
      refine lv_if_ne (tgt := 29) hx hb dX15_polynomial_24 (by decide) (fun h9 => absurd (by decide) h9) (fun _ => ?_)
      refine lv_iconst (v := 0) hx hb dX15_polynomial_27 (by decide) ?_
      exact W.iret (v := 0) hx hb hr (fun t ht hW => ⟨⟨0, (), rfl, rfl, by show va_P _ _ _ t.heap; rw [ht]; exact hP⟩, hS.F ht⟩) hS.2.2 dX15_polynomial_28
def wk_X15_led : List Cond := .code yX15_led cX15_led 3 (some .int) :: wU
set_option maxHeartbeats 4000000 in
set_option maxRecDepth 100000 in
theorem m_X15_led (l : Launch) (dC : Nat → ClassId) (dI : Nat → Nat → Nat) (h0 sz : Nat) (fs : List Value) (c0 : Int32) (hf : mF fs) : Met l yX15_led wk_X15_led ({ frames := 3, cells := 0, slots := 0, locals := 81 } : Room) (mP dC dI [(h0, .inr (15, fs))] [] sz [.ref h0, .int c0]) (va_Qi (S := Unit) (fun r _ => r = 0) (fun _ t => va_P (dC, dI) clx [(h0, .inr (15, (fs.set 0 (.int 1))))] t.heap) (va_A [(h0, .inr (15, fs))] sz)) 0 0 (va_A [(h0, .inr (15, fs))] sz) := by
  refine Met.ofW (cc := cX15_led) (maxL := 3) (ret := (some .int)) (by decide) rfl ?_
  intro p e s m args below meth c s₁ B hml hv
  obtain ⟨rfl, hsz, hP, hK, hD0⟩ := hv
  have hx := B.exec
  have hb := B.bytes
  have hr := B.returns
  have hts := atoms_spec (ws := wk_X15_led) B.pre
  have hu : ∀ w ∈ wU, w.before ([.ref h0, .int c0] : List Value).toArray s = true := fun w h => hts w (List.mem_cons_of_mem _ h)
  have hown : s.vm.findClass RX15 = some m.cls := findClass_of_methodNamed B.named
  have hlocks := B.notSynchronized
  subst hsz
  have hD := va_D1 (sz := s.heap.size) h0 (.inr (15, fs))
  generalize hAe : va_A [(h0, .inr (15, fs))] s.heap.size = A at hD ⊢
  have hA : ∀ q : Nat, s.heap.size ≤ q → A q := fun q h => by rw [← hAe]; exact Or.inr h
  have hS : va_S A s.heap s.heap [] := va_S.rf
  have hl := lv_entry ([.ref h0, .int c0]) (n := 3) (Nat.le_of_ble_eq_true rfl)
  rw [lg_entry_eq]
  generalize (lg_sl ([.ref h0, .int c0]) ++ List.replicate (3 - (lg_sl ([.ref h0, .int c0])).length) Slot.unset).toArray = ls at hl ⊢
  have hl : lv_has ls 3 [(0, .ref h0), (1, .int c0)] := hl
  refine lv_aload_n hx hb dX15_led_0 rfl (lv_at hl 0 rfl) ?_
  refine lv_iload_n hx hb dX15_led_1 rfl (lv_at hl 1 rfl) ?_
  have hFc := va_free (wc := [(h0, .inr (15, fs))]) hD hS hA [0] rfl
  refine va_calli (va_runV (As := [.int c0]) (rest := []) ⟨hx, hb, hml, hown, hu⟩ (m_X15_isPoint l dC dI h0 _ fs (c0) hf) (cwV 1 hu (gV u238 u239 u240 u236 u241) rfl rfl rfl (by decide +kernel) ⟨(Nat.le_of_ble_eq_true rfl), (Nat.le_of_ble_eq_true rfl)⟩) ⟨mP_blind, va_recv hK hP (ci := 15) (q0 := 0) rfl rfl, mP_at hP hK hD⟩ rfl rfl hl.1 rfl (lv_room (Nat.le_of_ble_eq_true rfl)) dX15_led_2 ⟨Nat.zero_le _, Nat.zero_le _⟩) hS (fun q _ h => hFc q h) hFc (fun r1 u9 t H1 locs ht hvm hw hB hz1 hk1 hS => ?_)
  have hw : r1 = 0 := hw
  subst hw
  have hP : va_P (dC, dI) clx [(h0, .inr (15, (fs.set 0 (.int 1))))] t.heap := hB
  rw [ht] at hP
  refine lv_if_ne (tgt := 10) hx hb dX15_led_5 (by decide) (fun h9 => absurd (by decide) h9) (fun _ => ?_)
  refine lv_iconst (v := 0) hx hb dX15_led_8 (by decide) ?_
  exact W.iret (v := 0) hx hb hr (fun t ht hW => ⟨⟨0, (), rfl, rfl, by show va_P _ _ _ t.heap; rw [ht]; exact hP⟩, hS.F ht⟩) hS.2.2 dX15_led_9
def wk_X15_through : List Cond := .code yX15_through cX15_through 7 (some .int) :: wU
set_option maxHeartbeats 4000000 in
set_option maxRecDepth 100000 in
theorem m_X15_through (l : Launch) (dC : Nat → ClassId) (dI : Nat → Nat → Nat) (h0 sz : Nat) (fs : List Value) (c0 d0 : Int32) (hf : mF fs) : Met l yX15_through wk_X15_through ({ frames := 3, cells := 0, slots := 0, locals := 81 } : Room) (mP dC dI [(h0, .inr (15, fs))] [] sz [.ref h0, .int c0, .int d0]) (va_Qi (S := Unit) (fun r _ => r = 0) (fun _ t => va_P (dC, dI) clx [(h0, .inr (15, (fs.set 0 (.int 1))))] t.heap) (va_A [(h0, .inr (15, fs))] sz)) 0 0 (va_A [(h0, .inr (15, fs))] sz) := by
  refine Met.ofW (cc := cX15_through) (maxL := 7) (ret := (some .int)) (by decide) rfl ?_
  intro p e s m args below meth c s₁ B hml hv
  obtain ⟨rfl, hsz, hP, hK, hD0⟩ := hv
  have hx := B.exec
  have hb := B.bytes
  have hr := B.returns
  have hts := atoms_spec (ws := wk_X15_through) B.pre
  have hu : ∀ w ∈ wU, w.before ([.ref h0, .int c0, .int d0] : List Value).toArray s = true := fun w h => hts w (List.mem_cons_of_mem _ h)
  have hown : s.vm.findClass RX15 = some m.cls := findClass_of_methodNamed B.named
  have hlocks := B.notSynchronized
  subst hsz
  have hD := va_D1 (sz := s.heap.size) h0 (.inr (15, fs))
  generalize hAe : va_A [(h0, .inr (15, fs))] s.heap.size = A at hD ⊢
  have hA : ∀ q : Nat, s.heap.size ≤ q → A q := fun q h => by rw [← hAe]; exact Or.inr h
  have hS : va_S A s.heap s.heap [] := va_S.rf
  have hl := lv_entry ([.ref h0, .int c0, .int d0]) (n := 7) (Nat.le_of_ble_eq_true rfl)
  rw [lg_entry_eq]
  generalize (lg_sl ([.ref h0, .int c0, .int d0]) ++ List.replicate (7 - (lg_sl ([.ref h0, .int c0, .int d0])).length) Slot.unset).toArray = ls at hl ⊢
  have hl : lv_has ls 7 [(0, .ref h0), (1, .int c0), (2, .int d0)] := hl
  refine lv_aload_n hx hb dX15_through_0 rfl (lv_at hl 0 rfl) ?_
  refine lv_iload_n hx hb dX15_through_1 rfl (lv_at hl 1 rfl) ?_
  have hFc := va_free (wc := [(h0, .inr (15, fs))]) hD hS hA [0] rfl
  refine va_calli (va_runV (As := [.int c0]) (rest := []) ⟨hx, hb, hml, hown, hu⟩ (m_X15_isPoint l dC dI h0 _ fs (c0) hf) (cwV 1 hu (gV u238 u239 u240 u236 u241) rfl rfl rfl (by decide +kernel) ⟨(Nat.le_of_ble_eq_true rfl), (Nat.le_of_ble_eq_true rfl)⟩) ⟨mP_blind, va_recv hK hP (ci := 15) (q0 := 0) rfl rfl, mP_at hP hK hD⟩ rfl rfl hl.1 rfl (lv_room (Nat.le_of_ble_eq_true rfl)) dX15_through_2 ⟨Nat.zero_le _, Nat.zero_le _⟩) hS (fun q _ h => hFc q h) hFc (fun r1 u9 t H1 locs ht hvm hw hB hz1 hk1 hS => ?_)
  have hw : r1 = 0 := hw
  subst hw
  have hP : va_P (dC, dI) clx [(h0, .inr (15, (fs.set 0 (.int 1))))] t.heap := hB
  rw [ht] at hP
  refine lv_if_eq (tgt := 16) hx hb dX15_through_5 (by decide) (fun _ => ?_) (fun h9 => absurd (by decide) h9)
  refine lv_iconst (v := 0) hx hb dX15_through_16 (by decide) ?_
  exact W.iret (v := 0) hx hb hr (fun t ht hW => ⟨⟨0, (), rfl, rfl, by show va_P _ _ _ t.heap; rw [ht]; exact hP⟩, hS.F ht⟩) hS.2.2 dX15_through_17
def wk_X15_found : List Cond := .code yX15_found cX15_found 3 (some .long) :: wU
set_option maxHeartbeats 4000000 in
set_option maxRecDepth 100000 in
theorem m_X15_found (l : Launch) (dC : Nat → ClassId) (dI : Nat → Nat → Nat) (h0 sz : Nat) (fs : List Value) (c0 d0 : Int32) (hf : mF fs) : Met l yX15_found wk_X15_found ({ frames := 2, cells := 0, slots := 0, locals := 60 } : Room) (mP dC dI [(h0, .inr (15, fs))] [] sz [.ref h0, .int c0, .int d0]) (va_Ql (S := Unit) (fun r _ => r = 0) (fun _ t => va_P (dC, dI) clx [(h0, .inr (15, (fs.set 0 (.int 1))))] t.heap) (va_A [(h0, .inr (15, fs))] sz)) 0 0 (va_A [(h0, .inr (15, fs))] sz) := by
  refine Met.ofW (cc := cX15_found) (maxL := 3) (ret := (some .long)) (by decide) rfl ?_
  intro p e s m args below meth c s₁ B hml hv
  obtain ⟨rfl, hsz, hP, hK, hD0⟩ := hv
  have hx := B.exec
  have hb := B.bytes
  have hr := B.returns
  have hts := atoms_spec (ws := wk_X15_found) B.pre
  have hu : ∀ w ∈ wU, w.before ([.ref h0, .int c0, .int d0] : List Value).toArray s = true := fun w h => hts w (List.mem_cons_of_mem _ h)
  have hown : s.vm.findClass RX15 = some m.cls := findClass_of_methodNamed B.named
  have hlocks := B.notSynchronized
  subst hsz
  have hD := va_D1 (sz := s.heap.size) h0 (.inr (15, fs))
  generalize hAe : va_A [(h0, .inr (15, fs))] s.heap.size = A at hD ⊢
  have hA : ∀ q : Nat, s.heap.size ≤ q → A q := fun q h => by rw [← hAe]; exact Or.inr h
  have hS : va_S A s.heap s.heap [] := va_S.rf
  have hl := lv_entry ([.ref h0, .int c0, .int d0]) (n := 3) (Nat.le_of_ble_eq_true rfl)
  rw [lg_entry_eq]
  generalize (lg_sl ([.ref h0, .int c0, .int d0]) ++ List.replicate (3 - (lg_sl ([.ref h0, .int c0, .int d0])).length) Slot.unset).toArray = ls at hl ⊢
  have hl : lv_has ls 3 [(0, .ref h0), (1, .int c0), (2, .int d0)] := hl
  refine lv_aload_n hx hb dX15_found_0 rfl (lv_at hl 0 rfl) ?_
  refine lv_iload_n hx hb dX15_found_1 rfl (lv_at hl 1 rfl) ?_
  refine lv_if_lt (tgt := 13) hx hb dX15_found_2 (by decide) (fun c1 => ?_) (fun c1 => ?_)
  · skip
    refine lv_iconst (v := 1) hx hb dX15_found_13 (by decide) ?_
    refine lv_goto (tgt := 31) hx hb dX15_found_14 (by decide) ?_
    refine va_put (D := (dC, dI)) (ci := 15) (v := .int 1) (ty := .int) (C := RX15) (T := TX15) (N := 74) hx hb hu iX15 tyX15 tyX15_ok nmX15 hown hK hP hD hS 0 rfl rfl 0 (by decide) (hu _ u230) (fun _ h9 => h9) rfl (by decide +kernel) rfl rfl (by rw [hf.2.2.2.2.2]; decide) dX15_found_31 (fun H locs hP hD hS => ?_)
    have hP : va_P (dC, dI) clx [(h0, .inr (15, (fs.set 0 (.int 1))))] H := hP
    have hD : va_D A [(h0, .inr (15, (fs.set 0 (.int 1))))] := hD
    refine lv_aload_n hx hb dX15_found_34 rfl (lv_at hl 0 rfl) ?_
    refine va_get (D := (dC, dI)) (ci := 15) (v := .int 1) (C := RX15) (T := TX15) (N := 74) hx hb hu iX15 hown hK hP 0 rfl rfl 0 (by decide) (hu _ u230) (fun _ h9 => h9) (List.getElem?_set_self (by rw [hf.2.2.2.2.2]; decide)) dX15_found_35 ?_
    refine lv_if_le (tgt := 43) hx hb dX15_found_38 (by decide) (fun h9 => absurd h9 (by decide)) (fun _ => ?_)
    refine lv_lconst (v := 0) hx hb dX15_found_41 (by decide) ?_
    exact W.lret (v := 0) hx hb hr (fun t ht hW => ⟨⟨0, (), rfl, rfl, by show va_P _ _ _ t.heap; rw [ht]; exact hP⟩, hS.F ht⟩) hS.2.2 dX15_found_42
  · skip
    refine lv_iload_n hx hb dX15_found_5 rfl (lv_at hl 1 rfl) ?_
    refine lv_aload_n hx hb dX15_found_6 rfl (lv_at hl 0 rfl) ?_
    refine va_get (D := (dC, dI)) (ci := 15) (v := .int 0) (C := RX15) (T := TX15) (N := 74) hx hb hu iX15 hown hK hP 0 rfl rfl 42 (by decide) (hu _ u247) (fun _ h9 => h9) hf.2.2.2.1 dX15_found_7 ?_
    refine lv_icmp_lt (tgt := 17) hx hb dX15_found_10 (by decide) (fun h9 => absurd h9 c1) (fun _ => ?_)
    refine lv_iconst (v := 1) hx hb dX15_found_13 (by decide) ?_
    refine lv_goto (tgt := 31) hx hb dX15_found_14 (by decide) ?_
    refine va_put (D := (dC, dI)) (ci := 15) (v := .int 1) (ty := .int) (C := RX15) (T := TX15) (N := 74) hx hb hu iX15 tyX15 tyX15_ok nmX15 hown hK hP hD hS 0 rfl rfl 0 (by decide) (hu _ u230) (fun _ h9 => h9) rfl (by decide +kernel) rfl rfl (by rw [hf.2.2.2.2.2]; decide) dX15_found_31 (fun H locs hP hD hS => ?_)
    have hP : va_P (dC, dI) clx [(h0, .inr (15, (fs.set 0 (.int 1))))] H := hP
    have hD : va_D A [(h0, .inr (15, (fs.set 0 (.int 1))))] := hD
    refine lv_aload_n hx hb dX15_found_34 rfl (lv_at hl 0 rfl) ?_
    refine va_get (D := (dC, dI)) (ci := 15) (v := .int 1) (C := RX15) (T := TX15) (N := 74) hx hb hu iX15 hown hK hP 0 rfl rfl 0 (by decide) (hu _ u230) (fun _ h9 => h9) (List.getElem?_set_self (by rw [hf.2.2.2.2.2]; decide)) dX15_found_35 ?_
    refine lv_if_le (tgt := 43) hx hb dX15_found_38 (by decide) (fun h9 => absurd h9 (by decide)) (fun _ => ?_)
    refine lv_lconst (v := 0) hx hb dX15_found_41 (by decide) ?_
    exact W.lret (v := 0) hx hb hr (fun t ht hW => ⟨⟨0, (), rfl, rfl, by show va_P _ _ _ t.heap; rw [ht]; exact hP⟩, hS.F ht⟩) hS.2.2 dX15_found_42
def wk_X15_coefficient : List Cond := .code yX15_coefficient cX15_coefficient 2 (some .int) :: wU
set_option maxHeartbeats 4000000 in
set_option maxRecDepth 100000 in
theorem m_X15_coefficient (l : Launch) (dC : Nat → ClassId) (dI : Nat → Nat → Nat) (h0 sz : Nat) (fs : List Value) (c0 : Int32) (hf : mF fs) : Met l yX15_coefficient wk_X15_coefficient ({ frames := 2, cells := 0, slots := 0, locals := 60 } : Room) (mP dC dI [(h0, .inr (15, fs))] [] sz [.ref h0, .int c0]) (va_Qi (S := Unit) (fun r _ => r = 0) (fun _ t => va_P (dC, dI) clx [(h0, .inr (15, (fs.set 0 (.int 0))))] t.heap) (va_A [(h0, .inr (15, fs))] sz)) 0 0 (va_A [(h0, .inr (15, fs))] sz) := by
  refine Met.ofW (cc := cX15_coefficient) (maxL := 2) (ret := (some .int)) (by decide) rfl ?_
  intro p e s m args below meth c s₁ B hml hv
  obtain ⟨rfl, hsz, hP, hK, hD0⟩ := hv
  have hx := B.exec
  have hb := B.bytes
  have hr := B.returns
  have hts := atoms_spec (ws := wk_X15_coefficient) B.pre
  have hu : ∀ w ∈ wU, w.before ([.ref h0, .int c0] : List Value).toArray s = true := fun w h => hts w (List.mem_cons_of_mem _ h)
  have hown : s.vm.findClass RX15 = some m.cls := findClass_of_methodNamed B.named
  have hlocks := B.notSynchronized
  subst hsz
  have hD := va_D1 (sz := s.heap.size) h0 (.inr (15, fs))
  generalize hAe : va_A [(h0, .inr (15, fs))] s.heap.size = A at hD ⊢
  have hA : ∀ q : Nat, s.heap.size ≤ q → A q := fun q h => by rw [← hAe]; exact Or.inr h
  have hS : va_S A s.heap s.heap [] := va_S.rf
  have hl := lv_entry ([.ref h0, .int c0]) (n := 2) (Nat.le_of_ble_eq_true rfl)
  rw [lg_entry_eq]
  generalize (lg_sl ([.ref h0, .int c0]) ++ List.replicate (2 - (lg_sl ([.ref h0, .int c0])).length) Slot.unset).toArray = ls at hl ⊢
  have hl : lv_has ls 2 [(0, .ref h0), (1, .int c0)] := hl
  refine lv_aload_n hx hb dX15_coefficient_0 rfl (lv_at hl 0 rfl) ?_
  refine lv_iconst (v := 0) hx hb dX15_coefficient_1 (by decide) ?_
  refine va_put (D := (dC, dI)) (ci := 15) (v := .int 0) (ty := .int) (C := RX15) (T := TX15) (N := 74) hx hb hu iX15 tyX15 tyX15_ok nmX15 hown hK hP hD hS 0 rfl rfl 0 (by decide) (hu _ u230) (fun _ h9 => h9) rfl (by decide +kernel) rfl rfl (by rw [hf.2.2.2.2.2]; decide) dX15_coefficient_2 (fun H locs hP hD hS => ?_)
  have hP : va_P (dC, dI) clx [(h0, .inr (15, (fs.set 0 (.int 0))))] H := hP
  have hD : va_D A [(h0, .inr (15, (fs.set 0 (.int 0))))] := hD
  refine lv_aload_n hx hb dX15_coefficient_5 rfl (lv_at hl 0 rfl) ?_
  refine va_get (D := (dC, dI)) (ci := 15) (v := .int 0) (C := RX15) (T := TX15) (N := 74) hx hb hu iX15 hown hK hP 0 rfl rfl 65 (by decide) (hu _ u248) (fun _ h9 => h9) (by rw [List.getElem?_set_ne (by decide)]; exact hf.2.2.2.2.1) dX15_coefficient_6 ?_
  refine lv_if_eq (tgt := 23) hx hb dX15_coefficient_9 (by decide) (fun _ => ?_) (fun h9 => absurd (by decide) h9)
  refine lv_iconst (v := 0) hx hb dX15_coefficient_23 (by decide) ?_
  refine lv_goto (tgt := 43) hx hb dX15_coefficient_24 (by decide) ?_
  exact W.iret (v := 0) hx hb hr (fun t ht hW => ⟨⟨0, (), rfl, rfl, by show va_P _ _ _ t.heap; rw [ht]; exact hP⟩, hS.F ht⟩) hS.2.2 dX15_coefficient_43
def wk_X15_root : List Cond := .code yX15_root cX15_root 8 (some .int) :: wU
set_option maxHeartbeats 4000000 in
set_option maxRecDepth 100000 in
theorem m_X15_root (l : Launch) (dC : Nat → ClassId) (dI : Nat → Nat → Nat) (h0 sz : Nat) (fs : List Value) (c0 : Int32) (hf : mF fs) : Met l yX15_root wk_X15_root ({ frames := 2, cells := 0, slots := 0, locals := 60 } : Room) (mP dC dI [(h0, .inr (15, fs))] [] sz [.ref h0, .int c0]) (va_Qi (S := Unit) (fun r _ => r = -1) (fun _ t => va_P (dC, dI) clx [(h0, .inr (15, (fs.set 0 (.int 0))))] t.heap) (va_A [(h0, .inr (15, fs))] sz)) 0 0 (va_A [(h0, .inr (15, fs))] sz) := by
  refine Met.ofW (cc := cX15_root) (maxL := 8) (ret := (some .int)) (by decide) rfl ?_
  intro p e s m args below meth c s₁ B hml hv
  obtain ⟨rfl, hsz, hP, hK, hD0⟩ := hv
  have hx := B.exec
  have hb := B.bytes
  have hr := B.returns
  have hts := atoms_spec (ws := wk_X15_root) B.pre
  have hu : ∀ w ∈ wU, w.before ([.ref h0, .int c0] : List Value).toArray s = true := fun w h => hts w (List.mem_cons_of_mem _ h)
  have hown : s.vm.findClass RX15 = some m.cls := findClass_of_methodNamed B.named
  have hlocks := B.notSynchronized
  subst hsz
  have hD := va_D1 (sz := s.heap.size) h0 (.inr (15, fs))
  generalize hAe : va_A [(h0, .inr (15, fs))] s.heap.size = A at hD ⊢
  have hA : ∀ q : Nat, s.heap.size ≤ q → A q := fun q h => by rw [← hAe]; exact Or.inr h
  have hS : va_S A s.heap s.heap [] := va_S.rf
  have hl := lv_entry ([.ref h0, .int c0]) (n := 8) (Nat.le_of_ble_eq_true rfl)
  rw [lg_entry_eq]
  generalize (lg_sl ([.ref h0, .int c0]) ++ List.replicate (8 - (lg_sl ([.ref h0, .int c0])).length) Slot.unset).toArray = ls at hl ⊢
  have hl : lv_has ls 8 [(0, .ref h0), (1, .int c0)] := hl
  refine lv_aload_n hx hb dX15_root_0 rfl (lv_at hl 0 rfl) ?_
  refine lv_iconst (v := 0) hx hb dX15_root_1 (by decide) ?_
  refine va_put (D := (dC, dI)) (ci := 15) (v := .int 0) (ty := .int) (C := RX15) (T := TX15) (N := 74) hx hb hu iX15 tyX15 tyX15_ok nmX15 hown hK hP hD hS 0 rfl rfl 0 (by decide) (hu _ u230) (fun _ h9 => h9) rfl (by decide +kernel) rfl rfl (by rw [hf.2.2.2.2.2]; decide) dX15_root_2 (fun H locs hP hD hS => ?_)
  have hP : va_P (dC, dI) clx [(h0, .inr (15, (fs.set 0 (.int 0))))] H := hP
  have hD : va_D A [(h0, .inr (15, (fs.set 0 (.int 0))))] := hD
  refine lv_aload_n hx hb dX15_root_5 rfl (lv_at hl 0 rfl) ?_
  refine va_get (D := (dC, dI)) (ci := 15) (v := .int 0) (C := RX15) (T := TX15) (N := 74) hx hb hu iX15 hown hK hP 0 rfl rfl 65 (by decide) (hu _ u248) (fun _ h9 => h9) (by rw [List.getElem?_set_ne (by decide)]; exact hf.2.2.2.2.1) dX15_root_6 ?_
  refine lv_if_ne (tgt := 16) hx hb dX15_root_9 (by decide) (fun h9 => absurd (by decide) h9) (fun _ => ?_)
  refine lv_iconst (v := (-1)) hx hb dX15_root_12 (by decide) ?_
  refine lv_goto (tgt := 20) hx hb dX15_root_13 (by decide) ?_
  refine lv_istore_n (lv' := [(2, .int (-1)), (0, .ref h0), (1, .int c0)]) hx hb dX15_root_20 rfl hl (by decide) rfl (fun ls hl => ?_)
  refine lv_iload_n hx hb dX15_root_21 rfl (lv_at hl 0 rfl) ?_
  refine lv_if_lt (tgt := 29) hx hb dX15_root_22 (by decide) (fun _ => ?_) (fun h9 => absurd (by decide) h9)
  refine lv_iconst (v := (-1)) hx hb dX15_root_29 (by decide) ?_
  exact W.iret (v := (-1)) hx hb hr (fun t ht hW => ⟨⟨(-1), (), rfl, rfl, by show va_P _ _ _ t.heap; rw [ht]; exact hP⟩, hS.F ht⟩) hS.2.2 dX15_root_30
def wk_X15_octet : List Cond := .code yX15_octet cX15_octet 2 (some .int) :: wU
set_option maxHeartbeats 4000000 in
set_option maxRecDepth 100000 in
theorem m_X15_octet (l : Launch) (dC : Nat → ClassId) (dI : Nat → Nat → Nat) (h0 sz : Nat) (fs : List Value) (c0 : Int32) (hf : mF fs) : Met l yX15_octet wk_X15_octet ({ frames := 2, cells := 0, slots := 0, locals := 60 } : Room) (mP dC dI [(h0, .inr (15, fs))] [] sz [.ref h0, .int c0]) (va_Qi (S := Unit) (fun r _ => r = -1) (fun _ t => va_P (dC, dI) clx [(h0, .inr (15, (fs.set 0 (.int 0))))] t.heap) (va_A [(h0, .inr (15, fs))] sz)) 0 0 (va_A [(h0, .inr (15, fs))] sz) := by
  refine Met.ofW (cc := cX15_octet) (maxL := 2) (ret := (some .int)) (by decide) rfl ?_
  intro p e s m args below meth c s₁ B hml hv
  obtain ⟨rfl, hsz, hP, hK, hD0⟩ := hv
  have hx := B.exec
  have hb := B.bytes
  have hr := B.returns
  have hts := atoms_spec (ws := wk_X15_octet) B.pre
  have hu : ∀ w ∈ wU, w.before ([.ref h0, .int c0] : List Value).toArray s = true := fun w h => hts w (List.mem_cons_of_mem _ h)
  have hown : s.vm.findClass RX15 = some m.cls := findClass_of_methodNamed B.named
  have hlocks := B.notSynchronized
  subst hsz
  have hD := va_D1 (sz := s.heap.size) h0 (.inr (15, fs))
  generalize hAe : va_A [(h0, .inr (15, fs))] s.heap.size = A at hD ⊢
  have hA : ∀ q : Nat, s.heap.size ≤ q → A q := fun q h => by rw [← hAe]; exact Or.inr h
  have hS : va_S A s.heap s.heap [] := va_S.rf
  have hl := lv_entry ([.ref h0, .int c0]) (n := 2) (Nat.le_of_ble_eq_true rfl)
  rw [lg_entry_eq]
  generalize (lg_sl ([.ref h0, .int c0]) ++ List.replicate (2 - (lg_sl ([.ref h0, .int c0])).length) Slot.unset).toArray = ls at hl ⊢
  have hl : lv_has ls 2 [(0, .ref h0), (1, .int c0)] := hl
  refine lv_aload_n hx hb dX15_octet_0 rfl (lv_at hl 0 rfl) ?_
  refine lv_iconst (v := 0) hx hb dX15_octet_1 (by decide) ?_
  refine va_put (D := (dC, dI)) (ci := 15) (v := .int 0) (ty := .int) (C := RX15) (T := TX15) (N := 74) hx hb hu iX15 tyX15 tyX15_ok nmX15 hown hK hP hD hS 0 rfl rfl 0 (by decide) (hu _ u230) (fun _ h9 => h9) rfl (by decide +kernel) rfl rfl (by rw [hf.2.2.2.2.2]; decide) dX15_octet_2 (fun H locs hP hD hS => ?_)
  have hP : va_P (dC, dI) clx [(h0, .inr (15, (fs.set 0 (.int 0))))] H := hP
  have hD : va_D A [(h0, .inr (15, (fs.set 0 (.int 0))))] := hD
  refine lv_iload_n hx hb dX15_octet_5 rfl (lv_at hl 1 rfl) ?_
  refine lv_if_lt (tgt := 26) hx hb dX15_octet_6 (by decide) (fun c1 => ?_) (fun c1 => ?_)
  · skip
    refine lv_iconst (v := (-1)) hx hb dX15_octet_26 (by decide) ?_
    exact W.iret (v := (-1)) hx hb hr (fun t ht hW => ⟨⟨(-1), (), rfl, rfl, by show va_P _ _ _ t.heap; rw [ht]; exact hP⟩, hS.F ht⟩) hS.2.2 dX15_octet_27
  · skip
    refine lv_iload_n hx hb dX15_octet_9 rfl (lv_at hl 1 rfl) ?_
    refine lv_aload_n hx hb dX15_octet_10 rfl (lv_at hl 0 rfl) ?_
    refine va_get (D := (dC, dI)) (ci := 15) (v := .int 0) (C := RX15) (T := TX15) (N := 74) hx hb hu iX15 hown hK hP 0 rfl rfl 34 (by decide) (hu _ u249) (fun _ h9 => h9) (by rw [List.getElem?_set_ne (by decide)]; exact hf.2.2.1) dX15_octet_11 ?_
    refine lv_icmp_ge (tgt := 26) hx hb dX15_octet_14 (by decide) (fun _ => ?_) (fun h9 => absurd (Int32.not_lt.mp c1) h9)
    refine lv_iconst (v := (-1)) hx hb dX15_octet_26 (by decide) ?_
    exact W.iret (v := (-1)) hx hb hr (fun t ht hW => ⟨⟨(-1), (), rfl, rfl, by show va_P _ _ _ t.heap; rw [ht]; exact hP⟩, hS.F ht⟩) hS.2.2 dX15_octet_27
def wk_X15_counted : List Cond := .code yX15_counted cX15_counted 2 (some .int) :: wU
set_option maxHeartbeats 4000000 in
set_option maxRecDepth 100000 in
theorem m_X15_counted (l : Launch) (dC : Nat → ClassId) (dI : Nat → Nat → Nat) (h0 sz : Nat) (fs : List Value) (c0 : Int32) (hf : mF fs) : Met l yX15_counted wk_X15_counted ({ frames := 2, cells := 0, slots := 0, locals := 60 } : Room) (mP dC dI [(h0, .inr (15, fs))] [] sz [.ref h0, .int c0]) (va_Qi (S := Unit) (fun r _ => r = cnt c0) (fun _ t => va_P (dC, dI) clx [(h0, .inr (15, (fs.set 0 (.int 0))))] t.heap) (va_A [(h0, .inr (15, fs))] sz)) 0 0 (va_A [(h0, .inr (15, fs))] sz) := by
  refine Met.ofW (cc := cX15_counted) (maxL := 2) (ret := (some .int)) (by decide) rfl ?_
  intro p e s m args below meth c s₁ B hml hv
  obtain ⟨rfl, hsz, hP, hK, hD0⟩ := hv
  have hx := B.exec
  have hb := B.bytes
  have hr := B.returns
  have hts := atoms_spec (ws := wk_X15_counted) B.pre
  have hu : ∀ w ∈ wU, w.before ([.ref h0, .int c0] : List Value).toArray s = true := fun w h => hts w (List.mem_cons_of_mem _ h)
  have hown : s.vm.findClass RX15 = some m.cls := findClass_of_methodNamed B.named
  have hlocks := B.notSynchronized
  subst hsz
  have hD := va_D1 (sz := s.heap.size) h0 (.inr (15, fs))
  generalize hAe : va_A [(h0, .inr (15, fs))] s.heap.size = A at hD ⊢
  have hA : ∀ q : Nat, s.heap.size ≤ q → A q := fun q h => by rw [← hAe]; exact Or.inr h
  have hS : va_S A s.heap s.heap [] := va_S.rf
  have hl := lv_entry ([.ref h0, .int c0]) (n := 2) (Nat.le_of_ble_eq_true rfl)
  rw [lg_entry_eq]
  generalize (lg_sl ([.ref h0, .int c0]) ++ List.replicate (2 - (lg_sl ([.ref h0, .int c0])).length) Slot.unset).toArray = ls at hl ⊢
  have hl : lv_has ls 2 [(0, .ref h0), (1, .int c0)] := hl
  refine lv_aload_n hx hb dX15_counted_0 rfl (lv_at hl 0 rfl) ?_
  refine lv_iconst (v := 0) hx hb dX15_counted_1 (by decide) ?_
  refine va_put (D := (dC, dI)) (ci := 15) (v := .int 0) (ty := .int) (C := RX15) (T := TX15) (N := 74) hx hb hu iX15 tyX15 tyX15_ok nmX15 hown hK hP hD hS 0 rfl rfl 0 (by decide) (hu _ u230) (fun _ h9 => h9) rfl (by decide +kernel) rfl rfl (by rw [hf.2.2.2.2.2]; decide) dX15_counted_2 (fun H locs hP hD hS => ?_)
  have hP : va_P (dC, dI) clx [(h0, .inr (15, (fs.set 0 (.int 0))))] H := hP
  have hD : va_D A [(h0, .inr (15, (fs.set 0 (.int 0))))] := hD
  refine lv_iload_n hx hb dX15_counted_5 rfl (lv_at hl 1 rfl) ?_
  refine lv_if_ne (tgt := 16) hx hb dX15_counted_6 (by decide) (fun c1 => ?_) (fun c1 => ?_)
  · skip
    refine lv_iload_n hx hb dX15_counted_16 rfl (lv_at hl 1 rfl) ?_
    refine lv_iconst (v := 1) hx hb dX15_counted_17 (by decide) ?_
    refine lv_icmp_ne (tgt := 28) hx hb dX15_counted_18 (by decide) (fun c2 => ?_) (fun c2 => ?_)
    · skip
      refine lv_iload_n hx hb dX15_counted_28 rfl (lv_at hl 1 rfl) ?_
      refine lv_iconst (v := 2) hx hb dX15_counted_29 (by decide) ?_
      refine lv_icmp_ne (tgt := 40) hx hb dX15_counted_30 (by decide) (fun c3 => ?_) (fun c3 => ?_)
      · skip
        refine lv_iconst (v := (-1)) hx hb dX15_counted_40 (by decide) ?_
        exact W.iret (v := (-1)) hx hb hr (fun t ht hW => ⟨⟨(-1), (), rfl, by unfold cnt; rw [if_neg (fun h => by rcases h with h | h | h; exact c1 h; exact c2 h; exact c3 h)], by show va_P _ _ _ t.heap; rw [ht]; exact hP⟩, hS.F ht⟩) hS.2.2 dX15_counted_41
      · skip
        refine lv_aload_n hx hb dX15_counted_33 rfl (lv_at hl 0 rfl) ?_
        refine va_get (D := (dC, dI)) (ci := 15) (v := .int 0) (C := RX15) (T := TX15) (N := 74) hx hb hu iX15 hown hK hP 0 rfl rfl 34 (by decide) (hu _ u249) (fun _ h9 => h9) (by rw [List.getElem?_set_ne (by decide)]; exact hf.2.2.1) dX15_counted_34 ?_
        refine lv_goto (tgt := 41) hx hb dX15_counted_37 (by decide) ?_
        exact W.iret (v := 0) hx hb hr (fun t ht hW => ⟨⟨0, (), rfl, by unfold cnt; rw [if_pos (by first | exact Or.inl c3 | exact Or.inr (Or.inl c3) | exact Or.inr (Or.inr c3))], by show va_P _ _ _ t.heap; rw [ht]; exact hP⟩, hS.F ht⟩) hS.2.2 dX15_counted_41
    · skip
      refine lv_aload_n hx hb dX15_counted_21 rfl (lv_at hl 0 rfl) ?_
      refine va_get (D := (dC, dI)) (ci := 15) (v := .int 0) (C := RX15) (T := TX15) (N := 74) hx hb hu iX15 hown hK hP 0 rfl rfl 22 (by decide) (hu _ u232) (fun _ h9 => h9) (by rw [List.getElem?_set_ne (by decide)]; exact hf.2.1) dX15_counted_22 ?_
      refine lv_goto (tgt := 41) hx hb dX15_counted_25 (by decide) ?_
      exact W.iret (v := 0) hx hb hr (fun t ht hW => ⟨⟨0, (), rfl, by unfold cnt; rw [if_pos (by first | exact Or.inl c2 | exact Or.inr (Or.inl c2) | exact Or.inr (Or.inr c2))], by show va_P _ _ _ t.heap; rw [ht]; exact hP⟩, hS.F ht⟩) hS.2.2 dX15_counted_41
  · skip
    refine lv_aload_n hx hb dX15_counted_9 rfl (lv_at hl 0 rfl) ?_
    refine va_get (D := (dC, dI)) (ci := 15) (v := .int 0) (C := RX15) (T := TX15) (N := 74) hx hb hu iX15 hown hK hP 0 rfl rfl 12 (by decide) (hu _ u231) (fun _ h9 => h9) (by rw [List.getElem?_set_ne (by decide)]; exact hf.1) dX15_counted_10 ?_
    refine lv_goto (tgt := 41) hx hb dX15_counted_13 (by decide) ?_
    exact W.iret (v := 0) hx hb hr (fun t ht hW => ⟨⟨0, (), rfl, by unfold cnt; rw [if_pos (by first | exact Or.inl c1 | exact Or.inr (Or.inl c1) | exact Or.inr (Or.inr c1))], by show va_P _ _ _ t.heap; rw [ht]; exact hP⟩, hS.F ht⟩) hS.2.2 dX15_counted_41
