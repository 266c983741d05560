theorem d_x_init_0 : decode prog_1_method_1_code 0 = .ok (.aload_n 0, 1) := by decide +kernel
theorem d_x_init_1 : decode prog_1_method_1_code 1 = .ok (.invokespecial 3, 3) := by decide +kernel
theorem d_x_init_4 : decode prog_1_method_1_code 4 = .ok (.aload_n 0, 1) := by decide +kernel
theorem d_x_init_5 : decode prog_1_method_1_code 5 = .ok (.new 9, 3) := by decide +kernel
theorem d_x_init_8 : decode prog_1_method_1_code 8 = .ok (.dup, 1) := by decide +kernel
theorem d_x_init_9 : decode prog_1_method_1_code 9 = .ok (.invokespecial 11, 3) := by decide +kernel
theorem d_x_init_12 : decode prog_1_method_1_code 12 = .ok (.putfield 12, 3) := by decide +kernel
theorem d_x_init_15 : decode prog_1_method_1_code 15 = .ok (.aload_n 0, 1) := by decide +kernel
theorem d_x_init_16 : decode prog_1_method_1_code 16 = .ok (.new 16, 3) := by decide +kernel
theorem d_x_init_19 : decode prog_1_method_1_code 19 = .ok (.dup, 1) := by decide +kernel
theorem d_x_init_20 : decode prog_1_method_1_code 20 = .ok (.invokespecial 18, 3) := by decide +kernel
theorem d_x_init_23 : decode prog_1_method_1_code 23 = .ok (.putfield 19, 3) := by decide +kernel
theorem d_x_init_26 : decode prog_1_method_1_code 26 = .ok (.aload_n 0, 1) := by decide +kernel
theorem d_x_init_27 : decode prog_1_method_1_code 27 = .ok (.new 23, 3) := by decide +kernel
theorem d_x_init_30 : decode prog_1_method_1_code 30 = .ok (.dup, 1) := by decide +kernel
theorem d_x_init_31 : decode prog_1_method_1_code 31 = .ok (.invokespecial 25, 3) := by decide +kernel
theorem d_x_init_34 : decode prog_1_method_1_code 34 = .ok (.putfield 26, 3) := by decide +kernel
theorem d_x_init_37 : decode prog_1_method_1_code 37 = .ok (.aload_n 0, 1) := by decide +kernel
theorem d_x_init_38 : decode prog_1_method_1_code 38 = .ok (.new 30, 3) := by decide +kernel
theorem d_x_init_41 : decode prog_1_method_1_code 41 = .ok (.dup, 1) := by decide +kernel
theorem d_x_init_42 : decode prog_1_method_1_code 42 = .ok (.invokespecial 32, 3) := by decide +kernel
theorem d_x_init_45 : decode prog_1_method_1_code 45 = .ok (.putfield 33, 3) := by decide +kernel
theorem d_x_init_48 : decode prog_1_method_1_code 48 = .ok (.aload_n 0, 1) := by decide +kernel
theorem d_x_init_49 : decode prog_1_method_1_code 49 = .ok (.bipush 100, 2) := by decide +kernel
theorem d_x_init_51 : decode prog_1_method_1_code 51 = .ok (.newarray .int, 2) := by decide +kernel
theorem d_x_init_53 : decode prog_1_method_1_code 53 = .ok (.putfield 37, 3) := by decide +kernel
theorem d_x_init_56 : decode prog_1_method_1_code 56 = .ok (.aload_n 0, 1) := by decide +kernel
theorem d_x_init_57 : decode prog_1_method_1_code 57 = .ok (.bipush 100, 2) := by decide +kernel
theorem d_x_init_59 : decode prog_1_method_1_code 59 = .ok (.newarray .int, 2) := by decide +kernel
theorem d_x_init_61 : decode prog_1_method_1_code 61 = .ok (.putfield 41, 3) := by decide +kernel
theorem d_x_init_64 : decode prog_1_method_1_code 64 = .ok (.aload_n 0, 1) := by decide +kernel
theorem d_x_init_65 : decode prog_1_method_1_code 65 = .ok (.iconst 0, 1) := by decide +kernel
theorem d_x_init_66 : decode prog_1_method_1_code 66 = .ok (.putfield 44, 3) := by decide +kernel
theorem d_x_init_69 : decode prog_1_method_1_code 69 = .ok (.aload_n 0, 1) := by decide +kernel
theorem d_x_init_70 : decode prog_1_method_1_code 70 = .ok (.iconst (-1), 1) := by decide +kernel
theorem d_x_init_71 : decode prog_1_method_1_code 71 = .ok (.putfield 48, 3) := by decide +kernel
theorem d_x_init_74 : decode prog_1_method_1_code 74 = .ok (.return_, 1) := by decide +kernel
theorem d_x_ask_0 : decode prog_1_method_7_code 0 = .ok (.aload_n 0, 1) := by decide +kernel
theorem d_x_ask_1 : decode prog_1_method_7_code 1 = .ok (.getfield 12, 3) := by decide +kernel
theorem d_x_ask_4 : decode prog_1_method_7_code 4 = .ok (.iload_n 2, 1) := by decide +kernel
theorem d_x_ask_5 : decode prog_1_method_7_code 5 = .ok (.invokevirtual 59, 3) := by decide +kernel
theorem d_x_ask_8 : decode prog_1_method_7_code 8 = .ok (.ifCond .ne 5, 3) := by decide +kernel
theorem d_x_ask_11 : decode prog_1_method_7_code 11 = .ok (.iconst (-1), 1) := by decide +kernel
theorem d_x_ask_12 : decode prog_1_method_7_code 12 = .ok (.ireturn, 1) := by decide +kernel
theorem d_x_counted_0 : decode prog_1_method_14_code 0 = .ok (.aload_n 0, 1) := by decide +kernel
theorem d_x_counted_1 : decode prog_1_method_14_code 1 = .ok (.getfield 12, 3) := by decide +kernel
theorem d_x_counted_4 : decode prog_1_method_14_code 4 = .ok (.iload_n 1, 1) := by decide +kernel
theorem d_x_counted_5 : decode prog_1_method_14_code 5 = .ok (.invokevirtual 59, 3) := by decide +kernel
theorem d_x_counted_8 : decode prog_1_method_14_code 8 = .ok (.ifCond .ne 5, 3) := by decide +kernel
theorem d_x_counted_11 : decode prog_1_method_14_code 11 = .ok (.iconst (-1), 1) := by decide +kernel
theorem d_x_counted_12 : decode prog_1_method_14_code 12 = .ok (.ireturn, 1) := by decide +kernel
theorem d_x_delete_0 : decode prog_1_method_13_code 0 = .ok (.aload_n 0, 1) := by decide +kernel
theorem d_x_delete_1 : decode prog_1_method_13_code 1 = .ok (.getfield 33, 3) := by decide +kernel
theorem d_x_delete_4 : decode prog_1_method_13_code 4 = .ok (.iload_n 1, 1) := by decide +kernel
theorem d_x_delete_5 : decode prog_1_method_13_code 5 = .ok (.invokevirtual 112, 3) := by decide +kernel
theorem d_x_delete_8 : decode prog_1_method_13_code 8 = .ok (.ifCond .ne 5, 3) := by decide +kernel
theorem d_x_delete_11 : decode prog_1_method_13_code 11 = .ok (.iconst (-1), 1) := by decide +kernel
theorem d_x_delete_12 : decode prog_1_method_13_code 12 = .ok (.ireturn, 1) := by decide +kernel
theorem d_x_fee_0 : decode prog_1_method_6_code 0 = .ok (.iload_n 1, 1) := by decide +kernel
theorem d_x_fee_1 : decode prog_1_method_6_code 1 = .ok (.invokestatic 51, 3) := by decide +kernel
theorem d_x_fee_4 : decode prog_1_method_6_code 4 = .ok (.ifCond .eq 14, 3) := by decide +kernel
theorem d_x_fee_7 : decode prog_1_method_6_code 7 = .ok (.iload_n 2, 1) := by decide +kernel
theorem d_x_fee_8 : decode prog_1_method_6_code 8 = .ok (.iconst 0, 1) := by decide +kernel
theorem d_x_fee_9 : decode prog_1_method_6_code 9 = .ok (.sipush 10000, 3) := by decide +kernel
theorem d_x_fee_12 : decode prog_1_method_6_code 12 = .ok (.invokestatic 84, 3) := by decide +kernel
theorem d_x_fee_15 : decode prog_1_method_6_code 15 = .ok (.ifCond .ne 6, 3) := by decide +kernel
theorem d_x_fee_18 : decode prog_1_method_6_code 18 = .ok (.bipush (-2), 2) := by decide +kernel
theorem d_x_fee_20 : decode prog_1_method_6_code 20 = .ok (.ireturn, 1) := by decide +kernel
theorem d_x_fee_21 : decode prog_1_method_6_code 21 = .ok (.aload_n 0, 1) := by decide +kernel
theorem d_x_fee_22 : decode prog_1_method_6_code 22 = .ok (.getfield 37, 3) := by decide +kernel
theorem d_x_fee_25 : decode prog_1_method_6_code 25 = .ok (.iload_n 1, 1) := by decide +kernel
theorem d_x_fee_26 : decode prog_1_method_6_code 26 = .ok (.iload_n 2, 1) := by decide +kernel
theorem d_x_fee_27 : decode prog_1_method_6_code 27 = .ok (.iastore, 1) := by decide +kernel
theorem d_x_fee_28 : decode prog_1_method_6_code 28 = .ok (.iconst 1, 1) := by decide +kernel
theorem d_x_fee_29 : decode prog_1_method_6_code 29 = .ok (.ireturn, 1) := by decide +kernel
theorem d_x_give_0 : decode prog_1_method_9_code 0 = .ok (.iload_n 1, 1) := by decide +kernel
theorem d_x_give_1 : decode prog_1_method_9_code 1 = .ok (.invokestatic 88, 3) := by decide +kernel
theorem d_x_give_4 : decode prog_1_method_9_code 4 = .ok (.ifCond .eq 13, 3) := by decide +kernel
theorem d_x_give_7 : decode prog_1_method_9_code 7 = .ok (.iload_n 2, 1) := by decide +kernel
theorem d_x_give_8 : decode prog_1_method_9_code 8 = .ok (.iconst 1, 1) := by decide +kernel
theorem d_x_give_9 : decode prog_1_method_9_code 9 = .ok (.bipush 9, 2) := by decide +kernel
theorem d_x_give_11 : decode prog_1_method_9_code 11 = .ok (.invokestatic 84, 3) := by decide +kernel
theorem d_x_give_14 : decode prog_1_method_9_code 14 = .ok (.ifCond .ne 6, 3) := by decide +kernel
theorem d_x_give_17 : decode prog_1_method_9_code 17 = .ok (.bipush (-2), 2) := by decide +kernel
theorem d_x_give_19 : decode prog_1_method_9_code 19 = .ok (.ireturn, 1) := by decide +kernel
theorem d_x_give_20 : decode prog_1_method_9_code 20 = .ok (.iconst 1, 1) := by decide +kernel
theorem d_x_give_21 : decode prog_1_method_9_code 21 = .ok (.iload_n 2, 1) := by decide +kernel
theorem d_x_give_22 : decode prog_1_method_9_code 22 = .ok (.ishl, 1) := by decide +kernel
theorem d_x_give_23 : decode prog_1_method_9_code 23 = .ok (.istore 4, 2) := by decide +kernel
theorem d_x_give_25 : decode prog_1_method_9_code 25 = .ok (.iload_n 3, 1) := by decide +kernel
theorem d_x_give_26 : decode prog_1_method_9_code 26 = .ok (.ifCond .eq 17, 3) := by decide +kernel
theorem d_x_give_29 : decode prog_1_method_9_code 29 = .ok (.aload_n 0, 1) := by decide +kernel
theorem d_x_give_30 : decode prog_1_method_9_code 30 = .ok (.getfield 41, 3) := by decide +kernel
theorem d_x_give_33 : decode prog_1_method_9_code 33 = .ok (.iload_n 1, 1) := by decide +kernel
theorem d_x_give_34 : decode prog_1_method_9_code 34 = .ok (.dup2, 1) := by decide +kernel
theorem d_x_give_35 : decode prog_1_method_9_code 35 = .ok (.iaload, 1) := by decide +kernel
theorem d_x_give_36 : decode prog_1_method_9_code 36 = .ok (.iload 4, 2) := by decide +kernel
theorem d_x_give_38 : decode prog_1_method_9_code 38 = .ok (.ior, 1) := by decide +kernel
theorem d_x_give_39 : decode prog_1_method_9_code 39 = .ok (.iastore, 1) := by decide +kernel
theorem d_x_give_40 : decode prog_1_method_9_code 40 = .ok (.goto 16, 3) := by decide +kernel
theorem d_x_give_43 : decode prog_1_method_9_code 43 = .ok (.aload_n 0, 1) := by decide +kernel
theorem d_x_give_44 : decode prog_1_method_9_code 44 = .ok (.getfield 41, 3) := by decide +kernel
theorem d_x_give_47 : decode prog_1_method_9_code 47 = .ok (.iload_n 1, 1) := by decide +kernel
theorem d_x_give_48 : decode prog_1_method_9_code 48 = .ok (.dup2, 1) := by decide +kernel
theorem d_x_give_49 : decode prog_1_method_9_code 49 = .ok (.iaload, 1) := by decide +kernel
theorem d_x_give_50 : decode prog_1_method_9_code 50 = .ok (.iload 4, 2) := by decide +kernel
theorem d_x_give_52 : decode prog_1_method_9_code 52 = .ok (.iconst (-1), 1) := by decide +kernel
theorem d_x_give_53 : decode prog_1_method_9_code 53 = .ok (.ixor, 1) := by decide +kernel
theorem d_x_give_54 : decode prog_1_method_9_code 54 = .ok (.iand, 1) := by decide +kernel
theorem d_x_give_55 : decode prog_1_method_9_code 55 = .ok (.iastore, 1) := by decide +kernel
theorem d_x_give_56 : decode prog_1_method_9_code 56 = .ok (.iconst 1, 1) := by decide +kernel
theorem d_x_give_57 : decode prog_1_method_9_code 57 = .ok (.ireturn, 1) := by decide +kernel
theorem d_x_isBetween_0 : decode prog_1_method_30_code 0 = .ok (.iload_n 0, 1) := by decide +kernel
theorem d_x_isBetween_1 : decode prog_1_method_30_code 1 = .ok (.iload_n 1, 1) := by decide +kernel
theorem d_x_isBetween_2 : decode prog_1_method_30_code 2 = .ok (.if_icmp .lt 12, 3) := by decide +kernel
theorem d_x_isBetween_5 : decode prog_1_method_30_code 5 = .ok (.iload_n 0, 1) := by decide +kernel
theorem d_x_isBetween_6 : decode prog_1_method_30_code 6 = .ok (.iload_n 2, 1) := by decide +kernel
theorem d_x_isBetween_7 : decode prog_1_method_30_code 7 = .ok (.if_icmp .gt 7, 3) := by decide +kernel
theorem d_x_isBetween_10 : decode prog_1_method_30_code 10 = .ok (.iconst 1, 1) := by decide +kernel
theorem d_x_isBetween_11 : decode prog_1_method_30_code 11 = .ok (.goto 4, 3) := by decide +kernel
theorem d_x_isBetween_14 : decode prog_1_method_30_code 14 = .ok (.iconst 0, 1) := by decide +kernel
theorem d_x_isBetween_15 : decode prog_1_method_30_code 15 = .ok (.ireturn, 1) := by decide +kernel
theorem d_x_isPerson_0 : decode prog_1_method_26_code 0 = .ok (.iload_n 0, 1) := by decide +kernel
theorem d_x_isPerson_1 : decode prog_1_method_26_code 1 = .ok (.iconst 0, 1) := by decide +kernel
theorem d_x_isPerson_2 : decode prog_1_method_26_code 2 = .ok (.bipush 99, 2) := by decide +kernel
theorem d_x_isPerson_4 : decode prog_1_method_26_code 4 = .ok (.invokestatic 84, 3) := by decide +kernel
theorem d_x_isPerson_7 : decode prog_1_method_26_code 7 = .ok (.ireturn, 1) := by decide +kernel
theorem d_x_isPublisher_0 : decode prog_1_method_25_code 0 = .ok (.iload_n 0, 1) := by decide +kernel
theorem d_x_isPublisher_1 : decode prog_1_method_25_code 1 = .ok (.iconst 0, 1) := by decide +kernel
theorem d_x_isPublisher_2 : decode prog_1_method_25_code 2 = .ok (.bipush 99, 2) := by decide +kernel
theorem d_x_isPublisher_4 : decode prog_1_method_25_code 4 = .ok (.invokestatic 84, 3) := by decide +kernel
theorem d_x_isPublisher_7 : decode prog_1_method_25_code 7 = .ok (.ireturn, 1) := by decide +kernel
theorem d_x_left_0 : decode prog_1_method_16_code 0 = .ok (.aload_n 0, 1) := by decide +kernel
theorem d_x_left_1 : decode prog_1_method_16_code 1 = .ok (.getfield 26, 3) := by decide +kernel
theorem d_x_left_4 : decode prog_1_method_16_code 4 = .ok (.iload_n 1, 1) := by decide +kernel
theorem d_x_left_5 : decode prog_1_method_16_code 5 = .ok (.invokevirtual 170, 3) := by decide +kernel
theorem d_x_left_8 : decode prog_1_method_16_code 8 = .ok (.ifCond .eq 15, 3) := by decide +kernel
theorem d_x_left_23 : decode prog_1_method_16_code 23 = .ok (.iconst (-1), 1) := by decide +kernel
theorem d_x_left_24 : decode prog_1_method_16_code 24 = .ok (.ireturn, 1) := by decide +kernel
theorem d_x_licence_0 : decode prog_1_method_5_code 0 = .ok (.aload_n 0, 1) := by decide +kernel
theorem d_x_licence_1 : decode prog_1_method_5_code 1 = .ok (.getfield 12, 3) := by decide +kernel
theorem d_x_licence_4 : decode prog_1_method_5_code 4 = .ok (.iload_n 1, 1) := by decide +kernel
theorem d_x_licence_5 : decode prog_1_method_5_code 5 = .ok (.invokevirtual 59, 3) := by decide +kernel
theorem d_x_licence_8 : decode prog_1_method_5_code 8 = .ok (.ifCond .ne 5, 3) := by decide +kernel
theorem d_x_licence_11 : decode prog_1_method_5_code 11 = .ok (.iconst (-1), 1) := by decide +kernel
theorem d_x_licence_12 : decode prog_1_method_5_code 12 = .ok (.ireturn, 1) := by decide +kernel
theorem d_x_limit_0 : decode prog_1_method_4_code 0 = .ok (.aload_n 0, 1) := by decide +kernel
theorem d_x_limit_1 : decode prog_1_method_4_code 1 = .ok (.getfield 12, 3) := by decide +kernel
theorem d_x_limit_4 : decode prog_1_method_4_code 4 = .ok (.iload_n 1, 1) := by decide +kernel
theorem d_x_limit_5 : decode prog_1_method_4_code 5 = .ok (.invokevirtual 59, 3) := by decide +kernel
theorem d_x_limit_8 : decode prog_1_method_4_code 8 = .ok (.ifCond .ne 5, 3) := by decide +kernel
theorem d_x_limit_11 : decode prog_1_method_4_code 11 = .ok (.iconst (-1), 1) := by decide +kernel
theorem d_x_limit_12 : decode prog_1_method_4_code 12 = .ok (.ireturn, 1) := by decide +kernel
theorem d_x_open_0 : decode prog_1_method_3_code 0 = .ok (.aload_n 0, 1) := by decide +kernel
theorem d_x_open_1 : decode prog_1_method_3_code 1 = .ok (.getfield 12, 3) := by decide +kernel
theorem d_x_open_4 : decode prog_1_method_3_code 4 = .ok (.iload_n 1, 1) := by decide +kernel
theorem d_x_open_5 : decode prog_1_method_3_code 5 = .ok (.invokevirtual 59, 3) := by decide +kernel
theorem d_x_open_8 : decode prog_1_method_3_code 8 = .ok (.ifCond .ne 5, 3) := by decide +kernel
theorem d_x_open_11 : decode prog_1_method_3_code 11 = .ok (.iconst (-1), 1) := by decide +kernel
theorem d_x_open_12 : decode prog_1_method_3_code 12 = .ok (.ireturn, 1) := by decide +kernel
theorem d_x_past_0 : decode prog_1_method_18_code 0 = .ok (.aload_n 0, 1) := by decide +kernel
theorem d_x_past_1 : decode prog_1_method_18_code 1 = .ok (.getfield 33, 3) := by decide +kernel
theorem d_x_past_4 : decode prog_1_method_18_code 4 = .ok (.iload_n 1, 1) := by decide +kernel
theorem d_x_past_5 : decode prog_1_method_18_code 5 = .ok (.iload_n 2, 1) := by decide +kernel
theorem d_x_past_6 : decode prog_1_method_18_code 6 = .ok (.invokevirtual 186, 3) := by decide +kernel
theorem d_x_past_9 : decode prog_1_method_18_code 9 = .ok (.istore_n 3, 1) := by decide +kernel
theorem d_x_past_10 : decode prog_1_method_18_code 10 = .ok (.iload_n 3, 1) := by decide +kernel
theorem d_x_past_11 : decode prog_1_method_18_code 11 = .ok (.iconst (-1), 1) := by decide +kernel
theorem d_x_past_12 : decode prog_1_method_18_code 12 = .ok (.if_icmp .ne 13, 3) := by decide +kernel
theorem d_x_past_15 : decode prog_1_method_18_code 15 = .ok (.new 131, 3) := by decide +kernel
theorem d_x_past_18 : decode prog_1_method_18_code 18 = .ok (.dup, 1) := by decide +kernel
theorem d_x_past_19 : decode prog_1_method_18_code 19 = .ok (.ldc 190, 2) := by decide +kernel
theorem d_x_past_21 : decode prog_1_method_18_code 21 = .ok (.invokespecial 135, 3) := by decide +kernel
theorem d_x_past_24 : decode prog_1_method_18_code 24 = .ok (.athrow, 1) := by decide +kernel
theorem d_x_renew_0 : decode prog_1_method_12_code 0 = .ok (.aload_n 0, 1) := by decide +kernel
theorem d_x_renew_1 : decode prog_1_method_12_code 1 = .ok (.getfield 33, 3) := by decide +kernel
theorem d_x_renew_4 : decode prog_1_method_12_code 4 = .ok (.iload_n 1, 1) := by decide +kernel
theorem d_x_renew_5 : decode prog_1_method_12_code 5 = .ok (.invokevirtual 112, 3) := by decide +kernel
theorem d_x_renew_8 : decode prog_1_method_12_code 8 = .ok (.ifCond .ne 5, 3) := by decide +kernel
theorem d_x_renew_11 : decode prog_1_method_12_code 11 = .ok (.iconst (-1), 1) := by decide +kernel
theorem d_x_renew_12 : decode prog_1_method_12_code 12 = .ok (.ireturn, 1) := by decide +kernel
theorem d_x_request_0 : decode prog_1_method_15_code 0 = .ok (.aload_n 0, 1) := by decide +kernel
theorem d_x_request_1 : decode prog_1_method_15_code 1 = .ok (.getfield 33, 3) := by decide +kernel
theorem d_x_request_4 : decode prog_1_method_15_code 4 = .ok (.iload_n 1, 1) := by decide +kernel
theorem d_x_request_5 : decode prog_1_method_15_code 5 = .ok (.invokevirtual 112, 3) := by decide +kernel
theorem d_x_request_8 : decode prog_1_method_15_code 8 = .ok (.ifCond .ne 13, 3) := by decide +kernel
theorem d_x_request_11 : decode prog_1_method_15_code 11 = .ok (.new 131, 3) := by decide +kernel
theorem d_x_request_14 : decode prog_1_method_15_code 14 = .ok (.dup, 1) := by decide +kernel
theorem d_x_request_15 : decode prog_1_method_15_code 15 = .ok (.ldc 133, 2) := by decide +kernel
theorem d_x_request_17 : decode prog_1_method_15_code 17 = .ok (.invokespecial 135, 3) := by decide +kernel
theorem d_x_request_20 : decode prog_1_method_15_code 20 = .ok (.athrow, 1) := by decide +kernel
theorem d_x_right_0 : decode prog_1_method_10_code 0 = .ok (.aload_n 0, 1) := by decide +kernel
theorem d_x_right_1 : decode prog_1_method_10_code 1 = .ok (.getfield 12, 3) := by decide +kernel
theorem d_x_right_4 : decode prog_1_method_10_code 4 = .ok (.iload_n 1, 1) := by decide +kernel
theorem d_x_right_5 : decode prog_1_method_10_code 5 = .ok (.invokevirtual 59, 3) := by decide +kernel
theorem d_x_right_8 : decode prog_1_method_10_code 8 = .ok (.ifCond .ne 5, 3) := by decide +kernel
theorem d_x_right_11 : decode prog_1_method_10_code 11 = .ok (.iconst (-1), 1) := by decide +kernel
theorem d_x_right_12 : decode prog_1_method_10_code 12 = .ok (.ireturn, 1) := by decide +kernel
theorem d_x_statistics_0 : decode prog_1_method_17_code 0 = .ok (.iload_n 1, 1) := by decide +kernel
theorem d_x_statistics_1 : decode prog_1_method_17_code 1 = .ok (.invokestatic 88, 3) := by decide +kernel
theorem d_x_statistics_4 : decode prog_1_method_17_code 4 = .ok (.ifCond .ne 5, 3) := by decide +kernel
theorem d_x_statistics_7 : decode prog_1_method_17_code 7 = .ok (.iconst (-1), 1) := by decide +kernel
theorem d_x_statistics_8 : decode prog_1_method_17_code 8 = .ok (.ireturn, 1) := by decide +kernel
theorem d_x_statistics_9 : decode prog_1_method_17_code 9 = .ok (.iload_n 2, 1) := by decide +kernel
theorem d_x_statistics_10 : decode prog_1_method_17_code 10 = .ok (.tableswitch 66 0 3 #[30, 39, 48, 57], 30) := by decide +kernel
theorem d_x_statistics_40 : decode prog_1_method_17_code 40 = .ok (.aload_n 0, 1) := by decide +kernel
theorem d_x_statistics_41 : decode prog_1_method_17_code 41 = .ok (.getfield 33, 3) := by decide +kernel
theorem d_x_statistics_44 : decode prog_1_method_17_code 44 = .ok (.iload_n 1, 1) := by decide +kernel
theorem d_x_statistics_45 : decode prog_1_method_17_code 45 = .ok (.invokevirtual 174, 3) := by decide +kernel
theorem d_x_statistics_48 : decode prog_1_method_17_code 48 = .ok (.ireturn, 1) := by decide +kernel
theorem d_x_statistics_49 : decode prog_1_method_17_code 49 = .ok (.aload_n 0, 1) := by decide +kernel
theorem d_x_statistics_50 : decode prog_1_method_17_code 50 = .ok (.getfield 33, 3) := by decide +kernel
theorem d_x_statistics_53 : decode prog_1_method_17_code 53 = .ok (.iload_n 1, 1) := by decide +kernel
theorem d_x_statistics_54 : decode prog_1_method_17_code 54 = .ok (.invokevirtual 177, 3) := by decide +kernel
theorem d_x_statistics_57 : decode prog_1_method_17_code 57 = .ok (.ireturn, 1) := by decide +kernel
theorem d_x_statistics_58 : decode prog_1_method_17_code 58 = .ok (.aload_n 0, 1) := by decide +kernel
theorem d_x_statistics_59 : decode prog_1_method_17_code 59 = .ok (.getfield 33, 3) := by decide +kernel
theorem d_x_statistics_62 : decode prog_1_method_17_code 62 = .ok (.iload_n 1, 1) := by decide +kernel
theorem d_x_statistics_63 : decode prog_1_method_17_code 63 = .ok (.invokevirtual 180, 3) := by decide +kernel
theorem d_x_statistics_66 : decode prog_1_method_17_code 66 = .ok (.ireturn, 1) := by decide +kernel
theorem d_x_statistics_67 : decode prog_1_method_17_code 67 = .ok (.aload_n 0, 1) := by decide +kernel
theorem d_x_statistics_68 : decode prog_1_method_17_code 68 = .ok (.getfield 33, 3) := by decide +kernel
theorem d_x_statistics_71 : decode prog_1_method_17_code 71 = .ok (.iload_n 1, 1) := by decide +kernel
theorem d_x_statistics_72 : decode prog_1_method_17_code 72 = .ok (.invokevirtual 183, 3) := by decide +kernel
theorem d_x_statistics_75 : decode prog_1_method_17_code 75 = .ok (.ireturn, 1) := by decide +kernel
theorem d_x_statistics_76 : decode prog_1_method_17_code 76 = .ok (.iconst (-1), 1) := by decide +kernel
theorem d_x_statistics_77 : decode prog_1_method_17_code 77 = .ok (.ireturn, 1) := by decide +kernel
theorem d_x_title_0 : decode prog_1_method_2_code 0 = .ok (.iload_n 1, 1) := by decide +kernel
theorem d_x_title_1 : decode prog_1_method_2_code 1 = .ok (.invokestatic 51, 3) := by decide +kernel
theorem d_x_title_4 : decode prog_1_method_2_code 4 = .ok (.ifCond .ne 6, 3) := by decide +kernel
theorem d_x_title_7 : decode prog_1_method_2_code 7 = .ok (.bipush (-2), 2) := by decide +kernel
theorem d_x_title_9 : decode prog_1_method_2_code 9 = .ok (.ireturn, 1) := by decide +kernel
theorem d_x_title_10 : decode prog_1_method_2_code 10 = .ok (.aload_n 0, 1) := by decide +kernel
theorem d_x_title_11 : decode prog_1_method_2_code 11 = .ok (.getfield 12, 3) := by decide +kernel
theorem d_x_title_14 : decode prog_1_method_2_code 14 = .ok (.iload_n 1, 1) := by decide +kernel
theorem d_x_title_15 : decode prog_1_method_2_code 15 = .ok (.invokevirtual 55, 3) := by decide +kernel
theorem d_x_title_18 : decode prog_1_method_2_code 18 = .ok (.ireturn, 1) := by decide +kernel
theorem d_x_waive_0 : decode prog_1_method_11_code 0 = .ok (.aload_n 0, 1) := by decide +kernel
theorem d_x_waive_1 : decode prog_1_method_11_code 1 = .ok (.getfield 12, 3) := by decide +kernel
theorem d_x_waive_4 : decode prog_1_method_11_code 4 = .ok (.iload_n 1, 1) := by decide +kernel
theorem d_x_waive_5 : decode prog_1_method_11_code 5 = .ok (.invokevirtual 59, 3) := by decide +kernel
theorem d_x_waive_8 : decode prog_1_method_11_code 8 = .ok (.ifCond .ne 5, 3) := by decide +kernel
theorem d_x_waive_11 : decode prog_1_method_11_code 11 = .ok (.iconst (-1), 1) := by decide +kernel
theorem d_x_waive_12 : decode prog_1_method_11_code 12 = .ok (.ireturn, 1) := by decide +kernel
theorem d_x_why_0 : decode prog_1_method_8_code 0 = .ok (.aload_n 0, 1) := by decide +kernel
theorem d_x_why_1 : decode prog_1_method_8_code 1 = .ok (.getfield 48, 3) := by decide +kernel
theorem d_x_why_4 : decode prog_1_method_8_code 4 = .ok (.ireturn, 1) := by decide +kernel
theorem d_c_init_0 : decode prog_2_method_1_code 0 = .ok (.aload_n 0, 1) := by decide +kernel
theorem d_c_init_1 : decode prog_2_method_1_code 1 = .ok (.invokespecial 3, 3) := by decide +kernel
theorem d_c_init_4 : decode prog_2_method_1_code 4 = .ok (.aload_n 0, 1) := by decide +kernel
theorem d_c_init_5 : decode prog_2_method_1_code 5 = .ok (.bipush 50, 2) := by decide +kernel
theorem d_c_init_7 : decode prog_2_method_1_code 7 = .ok (.newarray .int, 2) := by decide +kernel
theorem d_c_init_9 : decode prog_2_method_1_code 9 = .ok (.putfield 9, 3) := by decide +kernel
theorem d_c_init_12 : decode prog_2_method_1_code 12 = .ok (.aload_n 0, 1) := by decide +kernel
theorem d_c_init_13 : decode prog_2_method_1_code 13 = .ok (.bipush 50, 2) := by decide +kernel
theorem d_c_init_15 : decode prog_2_method_1_code 15 = .ok (.newarray .int, 2) := by decide +kernel
theorem d_c_init_17 : decode prog_2_method_1_code 17 = .ok (.putfield 15, 3) := by decide +kernel
theorem d_c_init_20 : decode prog_2_method_1_code 20 = .ok (.aload_n 0, 1) := by decide +kernel
theorem d_c_init_21 : decode prog_2_method_1_code 21 = .ok (.bipush 50, 2) := by decide +kernel
theorem d_c_init_23 : decode prog_2_method_1_code 23 = .ok (.newarray .int, 2) := by decide +kernel
theorem d_c_init_25 : decode prog_2_method_1_code 25 = .ok (.putfield 18, 3) := by decide +kernel
theorem d_c_init_28 : decode prog_2_method_1_code 28 = .ok (.aload_n 0, 1) := by decide +kernel
theorem d_c_init_29 : decode prog_2_method_1_code 29 = .ok (.bipush 50, 2) := by decide +kernel
theorem d_c_init_31 : decode prog_2_method_1_code 31 = .ok (.newarray .int, 2) := by decide +kernel
theorem d_c_init_33 : decode prog_2_method_1_code 33 = .ok (.putfield 21, 3) := by decide +kernel
theorem d_c_init_36 : decode prog_2_method_1_code 36 = .ok (.aload_n 0, 1) := by decide +kernel
theorem d_c_init_37 : decode prog_2_method_1_code 37 = .ok (.bipush 50, 2) := by decide +kernel
theorem d_c_init_39 : decode prog_2_method_1_code 39 = .ok (.newarray .int, 2) := by decide +kernel
theorem d_c_init_41 : decode prog_2_method_1_code 41 = .ok (.putfield 24, 3) := by decide +kernel
theorem d_c_init_44 : decode prog_2_method_1_code 44 = .ok (.aload_n 0, 1) := by decide +kernel
theorem d_c_init_45 : decode prog_2_method_1_code 45 = .ok (.iconst 0, 1) := by decide +kernel
theorem d_c_init_46 : decode prog_2_method_1_code 46 = .ok (.putfield 27, 3) := by decide +kernel
theorem d_c_init_49 : decode prog_2_method_1_code 49 = .ok (.return_, 1) := by decide +kernel
theorem d_c_has_0 : decode prog_2_method_2_code 0 = .ok (.iload_n 1, 1) := by decide +kernel
theorem d_c_has_1 : decode prog_2_method_2_code 1 = .ok (.ifCond .lt 15, 3) := by decide +kernel
theorem d_c_has_4 : decode prog_2_method_2_code 4 = .ok (.iload_n 1, 1) := by decide +kernel
theorem d_c_has_5 : decode prog_2_method_2_code 5 = .ok (.aload_n 0, 1) := by decide +kernel
theorem d_c_has_6 : decode prog_2_method_2_code 6 = .ok (.getfield 27, 3) := by decide +kernel
theorem d_c_has_9 : decode prog_2_method_2_code 9 = .ok (.if_icmp .ge 7, 3) := by decide +kernel
theorem d_c_has_16 : decode prog_2_method_2_code 16 = .ok (.iconst 0, 1) := by decide +kernel
theorem d_c_has_17 : decode prog_2_method_2_code 17 = .ok (.ireturn, 1) := by decide +kernel
theorem d_l_init_0 : decode prog_3_method_1_code 0 = .ok (.aload_n 0, 1) := by decide +kernel
theorem d_l_init_1 : decode prog_3_method_1_code 1 = .ok (.invokespecial 3, 3) := by decide +kernel
theorem d_l_init_4 : decode prog_3_method_1_code 4 = .ok (.aload_n 0, 1) := by decide +kernel
theorem d_l_init_5 : decode prog_3_method_1_code 5 = .ok (.bipush 100, 2) := by decide +kernel
theorem d_l_init_7 : decode prog_3_method_1_code 7 = .ok (.newarray .int, 2) := by decide +kernel
theorem d_l_init_9 : decode prog_3_method_1_code 9 = .ok (.putfield 9, 3) := by decide +kernel
theorem d_l_init_12 : decode prog_3_method_1_code 12 = .ok (.aload_n 0, 1) := by decide +kernel
theorem d_l_init_13 : decode prog_3_method_1_code 13 = .ok (.bipush 100, 2) := by decide +kernel
theorem d_l_init_15 : decode prog_3_method_1_code 15 = .ok (.newarray .int, 2) := by decide +kernel
theorem d_l_init_17 : decode prog_3_method_1_code 17 = .ok (.putfield 15, 3) := by decide +kernel
theorem d_l_init_20 : decode prog_3_method_1_code 20 = .ok (.aload_n 0, 1) := by decide +kernel
theorem d_l_init_21 : decode prog_3_method_1_code 21 = .ok (.bipush 100, 2) := by decide +kernel
theorem d_l_init_23 : decode prog_3_method_1_code 23 = .ok (.newarray .int, 2) := by decide +kernel
theorem d_l_init_25 : decode prog_3_method_1_code 25 = .ok (.putfield 18, 3) := by decide +kernel
theorem d_l_init_28 : decode prog_3_method_1_code 28 = .ok (.aload_n 0, 1) := by decide +kernel
theorem d_l_init_29 : decode prog_3_method_1_code 29 = .ok (.bipush 100, 2) := by decide +kernel
theorem d_l_init_31 : decode prog_3_method_1_code 31 = .ok (.newarray .int, 2) := by decide +kernel
theorem d_l_init_33 : decode prog_3_method_1_code 33 = .ok (.putfield 21, 3) := by decide +kernel
theorem d_l_init_36 : decode prog_3_method_1_code 36 = .ok (.aload_n 0, 1) := by decide +kernel
theorem d_l_init_37 : decode prog_3_method_1_code 37 = .ok (.iconst 0, 1) := by decide +kernel
theorem d_l_init_38 : decode prog_3_method_1_code 38 = .ok (.putfield 24, 3) := by decide +kernel
theorem d_l_init_41 : decode prog_3_method_1_code 41 = .ok (.return_, 1) := by decide +kernel
theorem d_q_init_0 : decode prog_4_method_1_code 0 = .ok (.aload_n 0, 1) := by decide +kernel
theorem d_q_init_1 : decode prog_4_method_1_code 1 = .ok (.invokespecial 3, 3) := by decide +kernel
theorem d_q_init_4 : decode prog_4_method_1_code 4 = .ok (.aload_n 0, 1) := by decide +kernel
theorem d_q_init_5 : decode prog_4_method_1_code 5 = .ok (.sipush 300, 3) := by decide +kernel
theorem d_q_init_8 : decode prog_4_method_1_code 8 = .ok (.newarray .int, 2) := by decide +kernel
theorem d_q_init_10 : decode prog_4_method_1_code 10 = .ok (.putfield 9, 3) := by decide +kernel
theorem d_q_init_13 : decode prog_4_method_1_code 13 = .ok (.aload_n 0, 1) := by decide +kernel
theorem d_q_init_14 : decode prog_4_method_1_code 14 = .ok (.sipush 300, 3) := by decide +kernel
theorem d_q_init_17 : decode prog_4_method_1_code 17 = .ok (.newarray .int, 2) := by decide +kernel
theorem d_q_init_19 : decode prog_4_method_1_code 19 = .ok (.putfield 15, 3) := by decide +kernel
theorem d_q_init_22 : decode prog_4_method_1_code 22 = .ok (.aload_n 0, 1) := by decide +kernel
theorem d_q_init_23 : decode prog_4_method_1_code 23 = .ok (.sipush 300, 3) := by decide +kernel
theorem d_q_init_26 : decode prog_4_method_1_code 26 = .ok (.newarray .int, 2) := by decide +kernel
theorem d_q_init_28 : decode prog_4_method_1_code 28 = .ok (.putfield 18, 3) := by decide +kernel
theorem d_q_init_31 : decode prog_4_method_1_code 31 = .ok (.aload_n 0, 1) := by decide +kernel
theorem d_q_init_32 : decode prog_4_method_1_code 32 = .ok (.sipush 300, 3) := by decide +kernel
theorem d_q_init_35 : decode prog_4_method_1_code 35 = .ok (.newarray .int, 2) := by decide +kernel
theorem d_q_init_37 : decode prog_4_method_1_code 37 = .ok (.putfield 21, 3) := by decide +kernel
theorem d_q_init_40 : decode prog_4_method_1_code 40 = .ok (.aload_n 0, 1) := by decide +kernel
theorem d_q_init_41 : decode prog_4_method_1_code 41 = .ok (.sipush 300, 3) := by decide +kernel
theorem d_q_init_44 : decode prog_4_method_1_code 44 = .ok (.newarray .int, 2) := by decide +kernel
theorem d_q_init_46 : decode prog_4_method_1_code 46 = .ok (.putfield 24, 3) := by decide +kernel
theorem d_q_init_49 : decode prog_4_method_1_code 49 = .ok (.aload_n 0, 1) := by decide +kernel
theorem d_q_init_50 : decode prog_4_method_1_code 50 = .ok (.sipush 300, 3) := by decide +kernel
theorem d_q_init_53 : decode prog_4_method_1_code 53 = .ok (.newarray .int, 2) := by decide +kernel
theorem d_q_init_55 : decode prog_4_method_1_code 55 = .ok (.putfield 27, 3) := by decide +kernel
theorem d_q_init_58 : decode prog_4_method_1_code 58 = .ok (.aload_n 0, 1) := by decide +kernel
theorem d_q_init_59 : decode prog_4_method_1_code 59 = .ok (.sipush 300, 3) := by decide +kernel
theorem d_q_init_62 : decode prog_4_method_1_code 62 = .ok (.newarray .int, 2) := by decide +kernel
theorem d_q_init_64 : decode prog_4_method_1_code 64 = .ok (.putfield 30, 3) := by decide +kernel
theorem d_q_init_67 : decode prog_4_method_1_code 67 = .ok (.aload_n 0, 1) := by decide +kernel
theorem d_q_init_68 : decode prog_4_method_1_code 68 = .ok (.sipush 300, 3) := by decide +kernel
theorem d_q_init_71 : decode prog_4_method_1_code 71 = .ok (.newarray .int, 2) := by decide +kernel
theorem d_q_init_73 : decode prog_4_method_1_code 73 = .ok (.putfield 33, 3) := by decide +kernel
theorem d_q_init_76 : decode prog_4_method_1_code 76 = .ok (.aload_n 0, 1) := by decide +kernel
theorem d_q_init_77 : decode prog_4_method_1_code 77 = .ok (.sipush 300, 3) := by decide +kernel
theorem d_q_init_80 : decode prog_4_method_1_code 80 = .ok (.newarray .int, 2) := by decide +kernel
theorem d_q_init_82 : decode prog_4_method_1_code 82 = .ok (.putfield 36, 3) := by decide +kernel
theorem d_q_init_85 : decode prog_4_method_1_code 85 = .ok (.aload_n 0, 1) := by decide +kernel
theorem d_q_init_86 : decode prog_4_method_1_code 86 = .ok (.sipush 300, 3) := by decide +kernel
theorem d_q_init_89 : decode prog_4_method_1_code 89 = .ok (.newarray .int, 2) := by decide +kernel
theorem d_q_init_91 : decode prog_4_method_1_code 91 = .ok (.putfield 39, 3) := by decide +kernel
theorem d_q_init_94 : decode prog_4_method_1_code 94 = .ok (.aload_n 0, 1) := by decide +kernel
theorem d_q_init_95 : decode prog_4_method_1_code 95 = .ok (.sipush 300, 3) := by decide +kernel
theorem d_q_init_98 : decode prog_4_method_1_code 98 = .ok (.newarray .int, 2) := by decide +kernel
theorem d_q_init_100 : decode prog_4_method_1_code 100 = .ok (.putfield 42, 3) := by decide +kernel
theorem d_q_init_103 : decode prog_4_method_1_code 103 = .ok (.aload_n 0, 1) := by decide +kernel
theorem d_q_init_104 : decode prog_4_method_1_code 104 = .ok (.sipush 300, 3) := by decide +kernel
theorem d_q_init_107 : decode prog_4_method_1_code 107 = .ok (.newarray .int, 2) := by decide +kernel
theorem d_q_init_109 : decode prog_4_method_1_code 109 = .ok (.putfield 45, 3) := by decide +kernel
theorem d_q_init_112 : decode prog_4_method_1_code 112 = .ok (.aload_n 0, 1) := by decide +kernel
theorem d_q_init_113 : decode prog_4_method_1_code 113 = .ok (.iconst 0, 1) := by decide +kernel
theorem d_q_init_114 : decode prog_4_method_1_code 114 = .ok (.putfield 48, 3) := by decide +kernel
theorem d_q_init_117 : decode prog_4_method_1_code 117 = .ok (.return_, 1) := by decide +kernel
theorem d_q_centsOf_0 : decode prog_4_method_17_code 0 = .ok (.iconst 0, 1) := by decide +kernel
theorem d_q_centsOf_1 : decode prog_4_method_17_code 1 = .ok (.istore_n 2, 1) := by decide +kernel
theorem d_q_centsOf_2 : decode prog_4_method_17_code 2 = .ok (.iconst 0, 1) := by decide +kernel
theorem d_q_centsOf_3 : decode prog_4_method_17_code 3 = .ok (.istore_n 3, 1) := by decide +kernel
theorem d_q_centsOf_4 : decode prog_4_method_17_code 4 = .ok (.iload_n 3, 1) := by decide +kernel
theorem d_q_centsOf_5 : decode prog_4_method_17_code 5 = .ok (.aload_n 0, 1) := by decide +kernel
theorem d_q_centsOf_6 : decode prog_4_method_17_code 6 = .ok (.getfield 48, 3) := by decide +kernel
theorem d_q_centsOf_9 : decode prog_4_method_17_code 9 = .ok (.if_icmp .ge 28, 3) := by decide +kernel
theorem d_q_centsOf_37 : decode prog_4_method_17_code 37 = .ok (.iload_n 2, 1) := by decide +kernel
theorem d_q_centsOf_38 : decode prog_4_method_17_code 38 = .ok (.ireturn, 1) := by decide +kernel
theorem d_q_countOf_0 : decode prog_4_method_14_code 0 = .ok (.iconst 0, 1) := by decide +kernel
theorem d_q_countOf_1 : decode prog_4_method_14_code 1 = .ok (.istore_n 2, 1) := by decide +kernel
theorem d_q_countOf_2 : decode prog_4_method_14_code 2 = .ok (.iconst 0, 1) := by decide +kernel
theorem d_q_countOf_3 : decode prog_4_method_14_code 3 = .ok (.istore_n 3, 1) := by decide +kernel
theorem d_q_countOf_4 : decode prog_4_method_14_code 4 = .ok (.iload_n 3, 1) := by decide +kernel
theorem d_q_countOf_5 : decode prog_4_method_14_code 5 = .ok (.aload_n 0, 1) := by decide +kernel
theorem d_q_countOf_6 : decode prog_4_method_14_code 6 = .ok (.getfield 48, 3) := by decide +kernel
theorem d_q_countOf_9 : decode prog_4_method_14_code 9 = .ok (.if_icmp .ge 22, 3) := by decide +kernel
theorem d_q_countOf_31 : decode prog_4_method_14_code 31 = .ok (.iload_n 2, 1) := by decide +kernel
theorem d_q_countOf_32 : decode prog_4_method_14_code 32 = .ok (.ireturn, 1) := by decide +kernel
theorem d_q_countRefusedOf_0 : decode prog_4_method_15_code 0 = .ok (.iconst 0, 1) := by decide +kernel
theorem d_q_countRefusedOf_1 : decode prog_4_method_15_code 1 = .ok (.istore_n 2, 1) := by decide +kernel
theorem d_q_countRefusedOf_2 : decode prog_4_method_15_code 2 = .ok (.iconst 0, 1) := by decide +kernel
theorem d_q_countRefusedOf_3 : decode prog_4_method_15_code 3 = .ok (.istore_n 3, 1) := by decide +kernel
theorem d_q_countRefusedOf_4 : decode prog_4_method_15_code 4 = .ok (.iload_n 3, 1) := by decide +kernel
theorem d_q_countRefusedOf_5 : decode prog_4_method_15_code 5 = .ok (.aload_n 0, 1) := by decide +kernel
theorem d_q_countRefusedOf_6 : decode prog_4_method_15_code 6 = .ok (.getfield 48, 3) := by decide +kernel
theorem d_q_countRefusedOf_9 : decode prog_4_method_15_code 9 = .ok (.if_icmp .ge 30, 3) := by decide +kernel
theorem d_q_countRefusedOf_39 : decode prog_4_method_15_code 39 = .ok (.iload_n 2, 1) := by decide +kernel
theorem d_q_countRefusedOf_40 : decode prog_4_method_15_code 40 = .ok (.ireturn, 1) := by decide +kernel
theorem d_q_endedAt_0 : decode prog_4_method_13_code 0 = .ok (.iconst 0, 1) := by decide +kernel
theorem d_q_endedAt_1 : decode prog_4_method_13_code 1 = .ok (.istore_n 3, 1) := by decide +kernel
theorem d_q_endedAt_2 : decode prog_4_method_13_code 2 = .ok (.iconst 0, 1) := by decide +kernel
theorem d_q_endedAt_3 : decode prog_4_method_13_code 3 = .ok (.istore 4, 2) := by decide +kernel
theorem d_q_endedAt_5 : decode prog_4_method_13_code 5 = .ok (.iload 4, 2) := by decide +kernel
theorem d_q_endedAt_7 : decode prog_4_method_13_code 7 = .ok (.aload_n 0, 1) := by decide +kernel
theorem d_q_endedAt_8 : decode prog_4_method_13_code 8 = .ok (.getfield 48, 3) := by decide +kernel
theorem d_q_endedAt_11 : decode prog_4_method_13_code 11 = .ok (.if_icmp .ge 39, 3) := by decide +kernel
theorem d_q_endedAt_50 : decode prog_4_method_13_code 50 = .ok (.iconst (-1), 1) := by decide +kernel
theorem d_q_endedAt_51 : decode prog_4_method_13_code 51 = .ok (.ireturn, 1) := by decide +kernel
theorem d_q_has_0 : decode prog_4_method_2_code 0 = .ok (.iload_n 1, 1) := by decide +kernel
theorem d_q_has_1 : decode prog_4_method_2_code 1 = .ok (.ifCond .lt 15, 3) := by decide +kernel
theorem d_q_has_4 : decode prog_4_method_2_code 4 = .ok (.iload_n 1, 1) := by decide +kernel
theorem d_q_has_5 : decode prog_4_method_2_code 5 = .ok (.aload_n 0, 1) := by decide +kernel
theorem d_q_has_6 : decode prog_4_method_2_code 6 = .ok (.getfield 48, 3) := by decide +kernel
theorem d_q_has_9 : decode prog_4_method_2_code 9 = .ok (.if_icmp .ge 7, 3) := by decide +kernel
theorem d_q_has_16 : decode prog_4_method_2_code 16 = .ok (.iconst 0, 1) := by decide +kernel
theorem d_q_has_17 : decode prog_4_method_2_code 17 = .ok (.ireturn, 1) := by decide +kernel
theorem d_q_pagesAllowedTo_0 : decode prog_4_method_16_code 0 = .ok (.iconst 0, 1) := by decide +kernel
theorem d_q_pagesAllowedTo_1 : decode prog_4_method_16_code 1 = .ok (.istore_n 2, 1) := by decide +kernel
theorem d_q_pagesAllowedTo_2 : decode prog_4_method_16_code 2 = .ok (.iconst 0, 1) := by decide +kernel
theorem d_q_pagesAllowedTo_3 : decode prog_4_method_16_code 3 = .ok (.istore_n 3, 1) := by decide +kernel
theorem d_q_pagesAllowedTo_4 : decode prog_4_method_16_code 4 = .ok (.iload_n 3, 1) := by decide +kernel
theorem d_q_pagesAllowedTo_5 : decode prog_4_method_16_code 5 = .ok (.aload_n 0, 1) := by decide +kernel
theorem d_q_pagesAllowedTo_6 : decode prog_4_method_16_code 6 = .ok (.getfield 48, 3) := by decide +kernel
theorem d_q_pagesAllowedTo_9 : decode prog_4_method_16_code 9 = .ok (.if_icmp .ge 36, 3) := by decide +kernel
theorem d_q_pagesAllowedTo_45 : decode prog_4_method_16_code 45 = .ok (.iload_n 2, 1) := by decide +kernel
theorem d_q_pagesAllowedTo_46 : decode prog_4_method_16_code 46 = .ok (.ireturn, 1) := by decide +kernel
theorem d_t_init_0 : decode prog_5_method_1_code 0 = .ok (.aload_n 0, 1) := by decide +kernel
theorem d_t_init_1 : decode prog_5_method_1_code 1 = .ok (.invokespecial 3, 3) := by decide +kernel
theorem d_t_init_4 : decode prog_5_method_1_code 4 = .ok (.aload_n 0, 1) := by decide +kernel
theorem d_t_init_5 : decode prog_5_method_1_code 5 = .ok (.bipush 50, 2) := by decide +kernel
theorem d_t_init_7 : decode prog_5_method_1_code 7 = .ok (.newarray .int, 2) := by decide +kernel
theorem d_t_init_9 : decode prog_5_method_1_code 9 = .ok (.putfield 9, 3) := by decide +kernel
theorem d_t_init_12 : decode prog_5_method_1_code 12 = .ok (.aload_n 0, 1) := by decide +kernel
theorem d_t_init_13 : decode prog_5_method_1_code 13 = .ok (.bipush 50, 2) := by decide +kernel
theorem d_t_init_15 : decode prog_5_method_1_code 15 = .ok (.newarray .boolean, 2) := by decide +kernel
theorem d_t_init_17 : decode prog_5_method_1_code 17 = .ok (.putfield 15, 3) := by decide +kernel
theorem d_t_init_20 : decode prog_5_method_1_code 20 = .ok (.aload_n 0, 1) := by decide +kernel
theorem d_t_init_21 : decode prog_5_method_1_code 21 = .ok (.bipush 50, 2) := by decide +kernel
theorem d_t_init_23 : decode prog_5_method_1_code 23 = .ok (.newarray .int, 2) := by decide +kernel
theorem d_t_init_25 : decode prog_5_method_1_code 25 = .ok (.putfield 19, 3) := by decide +kernel
theorem d_t_init_28 : decode prog_5_method_1_code 28 = .ok (.aload_n 0, 1) := by decide +kernel
theorem d_t_init_29 : decode prog_5_method_1_code 29 = .ok (.bipush 50, 2) := by decide +kernel
theorem d_t_init_31 : decode prog_5_method_1_code 31 = .ok (.newarray .int, 2) := by decide +kernel
theorem d_t_init_33 : decode prog_5_method_1_code 33 = .ok (.putfield 22, 3) := by decide +kernel
theorem d_t_init_36 : decode prog_5_method_1_code 36 = .ok (.aload_n 0, 1) := by decide +kernel
theorem d_t_init_37 : decode prog_5_method_1_code 37 = .ok (.iconst 0, 1) := by decide +kernel
theorem d_t_init_38 : decode prog_5_method_1_code 38 = .ok (.putfield 25, 3) := by decide +kernel
theorem d_t_init_41 : decode prog_5_method_1_code 41 = .ok (.return_, 1) := by decide +kernel
theorem d_t_add_0 : decode prog_5_method_3_code 0 = .ok (.aload_n 0, 1) := by decide +kernel
theorem d_t_add_1 : decode prog_5_method_3_code 1 = .ok (.getfield 25, 3) := by decide +kernel
theorem d_t_add_4 : decode prog_5_method_3_code 4 = .ok (.bipush 50, 2) := by decide +kernel
theorem d_t_add_6 : decode prog_5_method_3_code 6 = .ok (.if_icmp .lt 6, 3) := by decide +kernel
theorem d_t_add_12 : decode prog_5_method_3_code 12 = .ok (.aload_n 0, 1) := by decide +kernel
theorem d_t_add_13 : decode prog_5_method_3_code 13 = .ok (.getfield 9, 3) := by decide +kernel
theorem d_t_add_16 : decode prog_5_method_3_code 16 = .ok (.aload_n 0, 1) := by decide +kernel
theorem d_t_add_17 : decode prog_5_method_3_code 17 = .ok (.getfield 25, 3) := by decide +kernel
theorem d_t_add_20 : decode prog_5_method_3_code 20 = .ok (.iload_n 1, 1) := by decide +kernel
theorem d_t_add_21 : decode prog_5_method_3_code 21 = .ok (.iastore, 1) := by decide +kernel
theorem d_t_add_22 : decode prog_5_method_3_code 22 = .ok (.aload_n 0, 1) := by decide +kernel
theorem d_t_add_23 : decode prog_5_method_3_code 23 = .ok (.dup, 1) := by decide +kernel
theorem d_t_add_24 : decode prog_5_method_3_code 24 = .ok (.getfield 25, 3) := by decide +kernel
theorem d_t_add_27 : decode prog_5_method_3_code 27 = .ok (.iconst 1, 1) := by decide +kernel
theorem d_t_add_28 : decode prog_5_method_3_code 28 = .ok (.iadd, 1) := by decide +kernel
theorem d_t_add_29 : decode prog_5_method_3_code 29 = .ok (.putfield 25, 3) := by decide +kernel
theorem d_t_add_32 : decode prog_5_method_3_code 32 = .ok (.aload_n 0, 1) := by decide +kernel
theorem d_t_add_33 : decode prog_5_method_3_code 33 = .ok (.getfield 25, 3) := by decide +kernel
theorem d_t_add_36 : decode prog_5_method_3_code 36 = .ok (.iconst 1, 1) := by decide +kernel
theorem d_t_add_37 : decode prog_5_method_3_code 37 = .ok (.isub, 1) := by decide +kernel
theorem d_t_add_38 : decode prog_5_method_3_code 38 = .ok (.ireturn, 1) := by decide +kernel
theorem d_t_has_0 : decode prog_5_method_2_code 0 = .ok (.iload_n 1, 1) := by decide +kernel
theorem d_t_has_1 : decode prog_5_method_2_code 1 = .ok (.ifCond .lt 15, 3) := by decide +kernel
theorem d_t_has_4 : decode prog_5_method_2_code 4 = .ok (.iload_n 1, 1) := by decide +kernel
theorem d_t_has_5 : decode prog_5_method_2_code 5 = .ok (.aload_n 0, 1) := by decide +kernel
theorem d_t_has_6 : decode prog_5_method_2_code 6 = .ok (.getfield 25, 3) := by decide +kernel
theorem d_t_has_9 : decode prog_5_method_2_code 9 = .ok (.if_icmp .ge 7, 3) := by decide +kernel
theorem d_t_has_16 : decode prog_5_method_2_code 16 = .ok (.iconst 0, 1) := by decide +kernel
theorem d_t_has_17 : decode prog_5_method_2_code 17 = .ok (.ireturn, 1) := by decide +kernel
theorem d_w_past_0 : decode method_4_code 0 = .ok (.aload_n 3, 1) := by decide +kernel
theorem d_w_past_1 : decode method_4_code 1 = .ok (.iconst 0, 1) := by decide +kernel
theorem d_w_past_2 : decode method_4_code 2 = .ok (.aload_n 0, 1) := by decide +kernel
theorem d_w_past_3 : decode method_4_code 3 = .ok (.iload_n 1, 1) := by decide +kernel
theorem d_w_past_4 : decode method_4_code 4 = .ok (.iload_n 2, 1) := by decide +kernel
theorem d_w_past_5 : decode method_4_code 5 = .ok (.invokevirtual 15, 3) := by decide +kernel
theorem d_w_past_13 : decode method_4_code 13 = .ok (.astore 4, 2) := by decide +kernel
theorem d_w_past_15 : decode method_4_code 15 = .ok (.iconst 1, 1) := by decide +kernel
theorem d_w_past_16 : decode method_4_code 16 = .ok (.ireturn, 1) := by decide +kernel
theorem d_w_request_0 : decode method_3_code 0 = .ok (.aload_n 3, 1) := by decide +kernel
theorem d_w_request_1 : decode method_3_code 1 = .ok (.iconst 0, 1) := by decide +kernel
theorem d_w_request_2 : decode method_3_code 2 = .ok (.aload_n 0, 1) := by decide +kernel
theorem d_w_request_3 : decode method_3_code 3 = .ok (.iload_n 1, 1) := by decide +kernel
theorem d_w_request_4 : decode method_3_code 4 = .ok (.iload_n 2, 1) := by decide +kernel
theorem d_w_request_5 : decode method_3_code 5 = .ok (.invokevirtual 7, 3) := by decide +kernel
theorem d_w_request_13 : decode method_3_code 13 = .ok (.astore 4, 2) := by decide +kernel
theorem d_w_request_15 : decode method_3_code 15 = .ok (.iconst 1, 1) := by decide +kernel
theorem d_w_request_16 : decode method_3_code 16 = .ok (.ireturn, 1) := by decide +kernel
theorem d_m_init_0 : decode prog_7_method_1_code 0 = .ok (.aload_n 0, 1) := by decide +kernel
theorem d_m_init_1 : decode prog_7_method_1_code 1 = .ok (.invokespecial 1, 3) := by decide +kernel
theorem d_m_init_4 : decode prog_7_method_1_code 4 = .ok (.aload_n 0, 1) := by decide +kernel
theorem d_m_init_5 : decode prog_7_method_1_code 5 = .ok (.bipush 50, 2) := by decide +kernel
theorem d_m_init_7 : decode prog_7_method_1_code 7 = .ok (.newarray .int, 2) := by decide +kernel
theorem d_m_init_9 : decode prog_7_method_1_code 9 = .ok (.putfield 7, 3) := by decide +kernel
theorem d_m_init_12 : decode prog_7_method_1_code 12 = .ok (.aload_n 0, 1) := by decide +kernel
theorem d_m_init_13 : decode prog_7_method_1_code 13 = .ok (.bipush 50, 2) := by decide +kernel
theorem d_m_init_15 : decode prog_7_method_1_code 15 = .ok (.newarray .boolean, 2) := by decide +kernel
theorem d_m_init_17 : decode prog_7_method_1_code 17 = .ok (.putfield 13, 3) := by decide +kernel
theorem d_m_init_20 : decode prog_7_method_1_code 20 = .ok (.aload_n 0, 1) := by decide +kernel
theorem d_m_init_21 : decode prog_7_method_1_code 21 = .ok (.bipush 50, 2) := by decide +kernel
theorem d_m_init_23 : decode prog_7_method_1_code 23 = .ok (.newarray .int, 2) := by decide +kernel
theorem d_m_init_25 : decode prog_7_method_1_code 25 = .ok (.putfield 17, 3) := by decide +kernel
theorem d_m_init_28 : decode prog_7_method_1_code 28 = .ok (.aload_n 0, 1) := by decide +kernel
theorem d_m_init_29 : decode prog_7_method_1_code 29 = .ok (.bipush 50, 2) := by decide +kernel
theorem d_m_init_31 : decode prog_7_method_1_code 31 = .ok (.newarray .int, 2) := by decide +kernel
theorem d_m_init_33 : decode prog_7_method_1_code 33 = .ok (.putfield 20, 3) := by decide +kernel
theorem d_m_init_36 : decode prog_7_method_1_code 36 = .ok (.aload_n 0, 1) := by decide +kernel
theorem d_m_init_37 : decode prog_7_method_1_code 37 = .ok (.bipush 100, 2) := by decide +kernel
theorem d_m_init_39 : decode prog_7_method_1_code 39 = .ok (.newarray .int, 2) := by decide +kernel
theorem d_m_init_41 : decode prog_7_method_1_code 41 = .ok (.putfield 23, 3) := by decide +kernel
theorem d_m_init_44 : decode prog_7_method_1_code 44 = .ok (.aload_n 0, 1) := by decide +kernel
theorem d_m_init_45 : decode prog_7_method_1_code 45 = .ok (.sipush 1000, 3) := by decide +kernel
theorem d_m_init_48 : decode prog_7_method_1_code 48 = .ok (.newarray .boolean, 2) := by decide +kernel
theorem d_m_init_50 : decode prog_7_method_1_code 50 = .ok (.putfield 26, 3) := by decide +kernel
theorem d_m_init_53 : decode prog_7_method_1_code 53 = .ok (.aload_n 0, 1) := by decide +kernel
theorem d_m_init_54 : decode prog_7_method_1_code 54 = .ok (.bipush 100, 2) := by decide +kernel
theorem d_m_init_56 : decode prog_7_method_1_code 56 = .ok (.newarray .int, 2) := by decide +kernel
theorem d_m_init_58 : decode prog_7_method_1_code 58 = .ok (.putfield 29, 3) := by decide +kernel
theorem d_m_init_61 : decode prog_7_method_1_code 61 = .ok (.aload_n 0, 1) := by decide +kernel
theorem d_m_init_62 : decode prog_7_method_1_code 62 = .ok (.bipush 100, 2) := by decide +kernel
theorem d_m_init_64 : decode prog_7_method_1_code 64 = .ok (.newarray .int, 2) := by decide +kernel
theorem d_m_init_66 : decode prog_7_method_1_code 66 = .ok (.putfield 32, 3) := by decide +kernel
theorem d_m_init_69 : decode prog_7_method_1_code 69 = .ok (.aload_n 0, 1) := by decide +kernel
theorem d_m_init_70 : decode prog_7_method_1_code 70 = .ok (.bipush 100, 2) := by decide +kernel
theorem d_m_init_72 : decode prog_7_method_1_code 72 = .ok (.newarray .int, 2) := by decide +kernel
theorem d_m_init_74 : decode prog_7_method_1_code 74 = .ok (.putfield 35, 3) := by decide +kernel
theorem d_m_init_77 : decode prog_7_method_1_code 77 = .ok (.aload_n 0, 1) := by decide +kernel
theorem d_m_init_78 : decode prog_7_method_1_code 78 = .ok (.bipush 100, 2) := by decide +kernel
theorem d_m_init_80 : decode prog_7_method_1_code 80 = .ok (.newarray .int, 2) := by decide +kernel
theorem d_m_init_82 : decode prog_7_method_1_code 82 = .ok (.putfield 38, 3) := by decide +kernel
theorem d_m_init_85 : decode prog_7_method_1_code 85 = .ok (.aload_n 0, 1) := by decide +kernel
theorem d_m_init_86 : decode prog_7_method_1_code 86 = .ok (.bipush 50, 2) := by decide +kernel
theorem d_m_init_88 : decode prog_7_method_1_code 88 = .ok (.newarray .int, 2) := by decide +kernel
theorem d_m_init_90 : decode prog_7_method_1_code 90 = .ok (.putfield 41, 3) := by decide +kernel
theorem d_m_init_93 : decode prog_7_method_1_code 93 = .ok (.aload_n 0, 1) := by decide +kernel
theorem d_m_init_94 : decode prog_7_method_1_code 94 = .ok (.bipush 50, 2) := by decide +kernel
theorem d_m_init_96 : decode prog_7_method_1_code 96 = .ok (.newarray .int, 2) := by decide +kernel
theorem d_m_init_98 : decode prog_7_method_1_code 98 = .ok (.putfield 44, 3) := by decide +kernel
theorem d_m_init_101 : decode prog_7_method_1_code 101 = .ok (.aload_n 0, 1) := by decide +kernel
theorem d_m_init_102 : decode prog_7_method_1_code 102 = .ok (.bipush 50, 2) := by decide +kernel
theorem d_m_init_104 : decode prog_7_method_1_code 104 = .ok (.newarray .int, 2) := by decide +kernel
theorem d_m_init_106 : decode prog_7_method_1_code 106 = .ok (.putfield 47, 3) := by decide +kernel
theorem d_m_init_109 : decode prog_7_method_1_code 109 = .ok (.aload_n 0, 1) := by decide +kernel
theorem d_m_init_110 : decode prog_7_method_1_code 110 = .ok (.bipush 50, 2) := by decide +kernel
theorem d_m_init_112 : decode prog_7_method_1_code 112 = .ok (.newarray .int, 2) := by decide +kernel
theorem d_m_init_114 : decode prog_7_method_1_code 114 = .ok (.putfield 50, 3) := by decide +kernel
theorem d_m_init_117 : decode prog_7_method_1_code 117 = .ok (.aload_n 0, 1) := by decide +kernel
theorem d_m_init_118 : decode prog_7_method_1_code 118 = .ok (.bipush 50, 2) := by decide +kernel
theorem d_m_init_120 : decode prog_7_method_1_code 120 = .ok (.newarray .int, 2) := by decide +kernel
theorem d_m_init_122 : decode prog_7_method_1_code 122 = .ok (.putfield 53, 3) := by decide +kernel
theorem d_m_init_125 : decode prog_7_method_1_code 125 = .ok (.aload_n 0, 1) := by decide +kernel
theorem d_m_init_126 : decode prog_7_method_1_code 126 = .ok (.sipush 300, 3) := by decide +kernel
theorem d_m_init_129 : decode prog_7_method_1_code 129 = .ok (.newarray .int, 2) := by decide +kernel
theorem d_m_init_131 : decode prog_7_method_1_code 131 = .ok (.putfield 56, 3) := by decide +kernel
theorem d_m_init_134 : decode prog_7_method_1_code 134 = .ok (.aload_n 0, 1) := by decide +kernel
theorem d_m_init_135 : decode prog_7_method_1_code 135 = .ok (.sipush 300, 3) := by decide +kernel
theorem d_m_init_138 : decode prog_7_method_1_code 138 = .ok (.newarray .int, 2) := by decide +kernel
theorem d_m_init_140 : decode prog_7_method_1_code 140 = .ok (.putfield 59, 3) := by decide +kernel
theorem d_m_init_143 : decode prog_7_method_1_code 143 = .ok (.aload_n 0, 1) := by decide +kernel
theorem d_m_init_144 : decode prog_7_method_1_code 144 = .ok (.sipush 300, 3) := by decide +kernel
theorem d_m_init_147 : decode prog_7_method_1_code 147 = .ok (.newarray .int, 2) := by decide +kernel
theorem d_m_init_149 : decode prog_7_method_1_code 149 = .ok (.putfield 62, 3) := by decide +kernel
theorem d_m_init_152 : decode prog_7_method_1_code 152 = .ok (.aload_n 0, 1) := by decide +kernel
theorem d_m_init_153 : decode prog_7_method_1_code 153 = .ok (.sipush 300, 3) := by decide +kernel
theorem d_m_init_156 : decode prog_7_method_1_code 156 = .ok (.newarray .int, 2) := by decide +kernel
theorem d_m_init_158 : decode prog_7_method_1_code 158 = .ok (.putfield 65, 3) := by decide +kernel
theorem d_m_init_161 : decode prog_7_method_1_code 161 = .ok (.aload_n 0, 1) := by decide +kernel
theorem d_m_init_162 : decode prog_7_method_1_code 162 = .ok (.sipush 300, 3) := by decide +kernel
theorem d_m_init_165 : decode prog_7_method_1_code 165 = .ok (.newarray .int, 2) := by decide +kernel
theorem d_m_init_167 : decode prog_7_method_1_code 167 = .ok (.putfield 68, 3) := by decide +kernel
theorem d_m_init_170 : decode prog_7_method_1_code 170 = .ok (.aload_n 0, 1) := by decide +kernel
theorem d_m_init_171 : decode prog_7_method_1_code 171 = .ok (.sipush 300, 3) := by decide +kernel
theorem d_m_init_174 : decode prog_7_method_1_code 174 = .ok (.newarray .int, 2) := by decide +kernel
theorem d_m_init_176 : decode prog_7_method_1_code 176 = .ok (.putfield 71, 3) := by decide +kernel
theorem d_m_init_179 : decode prog_7_method_1_code 179 = .ok (.aload_n 0, 1) := by decide +kernel
theorem d_m_init_180 : decode prog_7_method_1_code 180 = .ok (.sipush 300, 3) := by decide +kernel
theorem d_m_init_183 : decode prog_7_method_1_code 183 = .ok (.newarray .int, 2) := by decide +kernel
theorem d_m_init_185 : decode prog_7_method_1_code 185 = .ok (.putfield 74, 3) := by decide +kernel
theorem d_m_init_188 : decode prog_7_method_1_code 188 = .ok (.aload_n 0, 1) := by decide +kernel
theorem d_m_init_189 : decode prog_7_method_1_code 189 = .ok (.sipush 300, 3) := by decide +kernel
theorem d_m_init_192 : decode prog_7_method_1_code 192 = .ok (.newarray .int, 2) := by decide +kernel
theorem d_m_init_194 : decode prog_7_method_1_code 194 = .ok (.putfield 77, 3) := by decide +kernel
theorem d_m_init_197 : decode prog_7_method_1_code 197 = .ok (.aload_n 0, 1) := by decide +kernel
theorem d_m_init_198 : decode prog_7_method_1_code 198 = .ok (.sipush 300, 3) := by decide +kernel
theorem d_m_init_201 : decode prog_7_method_1_code 201 = .ok (.newarray .int, 2) := by decide +kernel
theorem d_m_init_203 : decode prog_7_method_1_code 203 = .ok (.putfield 80, 3) := by decide +kernel
theorem d_m_init_206 : decode prog_7_method_1_code 206 = .ok (.aload_n 0, 1) := by decide +kernel
theorem d_m_init_207 : decode prog_7_method_1_code 207 = .ok (.sipush 300, 3) := by decide +kernel
theorem d_m_init_210 : decode prog_7_method_1_code 210 = .ok (.newarray .int, 2) := by decide +kernel
theorem d_m_init_212 : decode prog_7_method_1_code 212 = .ok (.putfield 83, 3) := by decide +kernel
theorem d_m_init_215 : decode prog_7_method_1_code 215 = .ok (.aload_n 0, 1) := by decide +kernel
theorem d_m_init_216 : decode prog_7_method_1_code 216 = .ok (.sipush 300, 3) := by decide +kernel
theorem d_m_init_219 : decode prog_7_method_1_code 219 = .ok (.newarray .int, 2) := by decide +kernel
theorem d_m_init_221 : decode prog_7_method_1_code 221 = .ok (.putfield 86, 3) := by decide +kernel
theorem d_m_init_224 : decode prog_7_method_1_code 224 = .ok (.aload_n 0, 1) := by decide +kernel
theorem d_m_init_225 : decode prog_7_method_1_code 225 = .ok (.iconst (-1), 1) := by decide +kernel
theorem d_m_init_226 : decode prog_7_method_1_code 226 = .ok (.putfield 89, 3) := by decide +kernel
theorem d_m_init_229 : decode prog_7_method_1_code 229 = .ok (.return_, 1) := by decide +kernel
theorem d_m_ask_0 : decode prog_7_method_15_code 0 = .ok (.aload_n 0, 1) := by decide +kernel
theorem d_m_ask_1 : decode prog_7_method_15_code 1 = .ok (.iconst 0, 1) := by decide +kernel
theorem d_m_ask_2 : decode prog_7_method_15_code 2 = .ok (.putfield 93, 3) := by decide +kernel
theorem d_m_ask_5 : decode prog_7_method_15_code 5 = .ok (.aload_n 0, 1) := by decide +kernel
theorem d_m_ask_6 : decode prog_7_method_15_code 6 = .ok (.iload_n 2, 1) := by decide +kernel
theorem d_m_ask_7 : decode prog_7_method_15_code 7 = .ok (.invokevirtual 107, 3) := by decide +kernel
theorem d_m_ask_10 : decode prog_7_method_15_code 10 = .ok (.ifCond .ne 5, 3) := by decide +kernel
theorem d_m_ask_13 : decode prog_7_method_15_code 13 = .ok (.iconst (-1), 1) := by decide +kernel
theorem d_m_ask_14 : decode prog_7_method_15_code 14 = .ok (.ireturn, 1) := by decide +kernel
theorem d_m_counted_0 : decode prog_7_method_22_code 0 = .ok (.aload_n 0, 1) := by decide +kernel
theorem d_m_counted_1 : decode prog_7_method_22_code 1 = .ok (.iconst 0, 1) := by decide +kernel
theorem d_m_counted_2 : decode prog_7_method_22_code 2 = .ok (.putfield 93, 3) := by decide +kernel
theorem d_m_counted_5 : decode prog_7_method_22_code 5 = .ok (.aload_n 0, 1) := by decide +kernel
theorem d_m_counted_6 : decode prog_7_method_22_code 6 = .ok (.iload_n 1, 1) := by decide +kernel
theorem d_m_counted_7 : decode prog_7_method_22_code 7 = .ok (.invokevirtual 107, 3) := by decide +kernel
theorem d_m_counted_10 : decode prog_7_method_22_code 10 = .ok (.ifCond .ne 5, 3) := by decide +kernel
theorem d_m_counted_13 : decode prog_7_method_22_code 13 = .ok (.iconst (-1), 1) := by decide +kernel
theorem d_m_counted_14 : decode prog_7_method_22_code 14 = .ok (.ireturn, 1) := by decide +kernel
theorem d_m_delete_0 : decode prog_7_method_21_code 0 = .ok (.aload_n 0, 1) := by decide +kernel
theorem d_m_delete_1 : decode prog_7_method_21_code 1 = .ok (.iconst 0, 1) := by decide +kernel
theorem d_m_delete_2 : decode prog_7_method_21_code 2 = .ok (.putfield 93, 3) := by decide +kernel
theorem d_m_delete_5 : decode prog_7_method_21_code 5 = .ok (.iload_n 1, 1) := by decide +kernel
theorem d_m_delete_6 : decode prog_7_method_21_code 6 = .ok (.iconst 0, 1) := by decide +kernel
theorem d_m_delete_7 : decode prog_7_method_21_code 7 = .ok (.aload_n 0, 1) := by decide +kernel
theorem d_m_delete_8 : decode prog_7_method_21_code 8 = .ok (.getfield 117, 3) := by decide +kernel
theorem d_m_delete_11 : decode prog_7_method_21_code 11 = .ok (.iconst 1, 1) := by decide +kernel
theorem d_m_delete_12 : decode prog_7_method_21_code 12 = .ok (.isub, 1) := by decide +kernel
theorem d_m_delete_13 : decode prog_7_method_21_code 13 = .ok (.invokestatic 99, 3) := by decide +kernel
theorem d_m_delete_16 : decode prog_7_method_21_code 16 = .ok (.ifCond .ne 5, 3) := by decide +kernel
theorem d_m_delete_19 : decode prog_7_method_21_code 19 = .ok (.iconst (-1), 1) := by decide +kernel
theorem d_m_delete_20 : decode prog_7_method_21_code 20 = .ok (.ireturn, 1) := by decide +kernel
theorem d_m_fee_0 : decode prog_7_method_10_code 0 = .ok (.aload_n 0, 1) := by decide +kernel
theorem d_m_fee_1 : decode prog_7_method_10_code 1 = .ok (.iconst 0, 1) := by decide +kernel
theorem d_m_fee_2 : decode prog_7_method_10_code 2 = .ok (.putfield 93, 3) := by decide +kernel
theorem d_m_fee_5 : decode prog_7_method_10_code 5 = .ok (.iload_n 1, 1) := by decide +kernel
theorem d_m_fee_6 : decode prog_7_method_10_code 6 = .ok (.iconst 0, 1) := by decide +kernel
theorem d_m_fee_7 : decode prog_7_method_10_code 7 = .ok (.bipush 99, 2) := by decide +kernel
theorem d_m_fee_9 : decode prog_7_method_10_code 9 = .ok (.invokestatic 99, 3) := by decide +kernel
theorem d_m_fee_12 : decode prog_7_method_10_code 12 = .ok (.ifCond .eq 14, 3) := by decide +kernel
theorem d_m_fee_15 : decode prog_7_method_10_code 15 = .ok (.iload_n 2, 1) := by decide +kernel
theorem d_m_fee_16 : decode prog_7_method_10_code 16 = .ok (.iconst 0, 1) := by decide +kernel
theorem d_m_fee_17 : decode prog_7_method_10_code 17 = .ok (.sipush 10000, 3) := by decide +kernel
theorem d_m_fee_20 : decode prog_7_method_10_code 20 = .ok (.invokestatic 99, 3) := by decide +kernel
theorem d_m_fee_23 : decode prog_7_method_10_code 23 = .ok (.ifCond .ne 6, 3) := by decide +kernel
theorem d_m_fee_26 : decode prog_7_method_10_code 26 = .ok (.bipush (-2), 2) := by decide +kernel
theorem d_m_fee_28 : decode prog_7_method_10_code 28 = .ok (.ireturn, 1) := by decide +kernel
theorem d_m_fee_29 : decode prog_7_method_10_code 29 = .ok (.aload_n 0, 1) := by decide +kernel
theorem d_m_fee_30 : decode prog_7_method_10_code 30 = .ok (.getfield 23, 3) := by decide +kernel
theorem d_m_fee_33 : decode prog_7_method_10_code 33 = .ok (.iload_n 1, 1) := by decide +kernel
theorem d_m_fee_34 : decode prog_7_method_10_code 34 = .ok (.iload_n 2, 1) := by decide +kernel
theorem d_m_fee_35 : decode prog_7_method_10_code 35 = .ok (.iastore, 1) := by decide +kernel
theorem d_m_fee_36 : decode prog_7_method_10_code 36 = .ok (.iconst 1, 1) := by decide +kernel
theorem d_m_fee_37 : decode prog_7_method_10_code 37 = .ok (.ireturn, 1) := by decide +kernel
theorem d_m_give_0 : decode prog_7_method_17_code 0 = .ok (.aload_n 0, 1) := by decide +kernel
theorem d_m_give_1 : decode prog_7_method_17_code 1 = .ok (.iconst 0, 1) := by decide +kernel
theorem d_m_give_2 : decode prog_7_method_17_code 2 = .ok (.putfield 93, 3) := by decide +kernel
theorem d_m_give_5 : decode prog_7_method_17_code 5 = .ok (.iload_n 1, 1) := by decide +kernel
theorem d_m_give_6 : decode prog_7_method_17_code 6 = .ok (.iconst 0, 1) := by decide +kernel
theorem d_m_give_7 : decode prog_7_method_17_code 7 = .ok (.bipush 99, 2) := by decide +kernel
theorem d_m_give_9 : decode prog_7_method_17_code 9 = .ok (.invokestatic 99, 3) := by decide +kernel
theorem d_m_give_12 : decode prog_7_method_17_code 12 = .ok (.ifCond .eq 13, 3) := by decide +kernel
theorem d_m_give_15 : decode prog_7_method_17_code 15 = .ok (.iload_n 2, 1) := by decide +kernel
theorem d_m_give_16 : decode prog_7_method_17_code 16 = .ok (.iconst 1, 1) := by decide +kernel
theorem d_m_give_17 : decode prog_7_method_17_code 17 = .ok (.bipush 9, 2) := by decide +kernel
theorem d_m_give_19 : decode prog_7_method_17_code 19 = .ok (.invokestatic 99, 3) := by decide +kernel
theorem d_m_give_22 : decode prog_7_method_17_code 22 = .ok (.ifCond .ne 6, 3) := by decide +kernel
theorem d_m_give_25 : decode prog_7_method_17_code 25 = .ok (.bipush (-2), 2) := by decide +kernel
theorem d_m_give_27 : decode prog_7_method_17_code 27 = .ok (.ireturn, 1) := by decide +kernel
theorem d_m_give_28 : decode prog_7_method_17_code 28 = .ok (.aload_n 0, 1) := by decide +kernel
theorem d_m_give_29 : decode prog_7_method_17_code 29 = .ok (.getfield 26, 3) := by decide +kernel
theorem d_m_give_32 : decode prog_7_method_17_code 32 = .ok (.bipush 10, 2) := by decide +kernel
theorem d_m_give_34 : decode prog_7_method_17_code 34 = .ok (.iload_n 1, 1) := by decide +kernel
theorem d_m_give_35 : decode prog_7_method_17_code 35 = .ok (.imul, 1) := by decide +kernel
theorem d_m_give_36 : decode prog_7_method_17_code 36 = .ok (.iload_n 2, 1) := by decide +kernel
theorem d_m_give_37 : decode prog_7_method_17_code 37 = .ok (.iadd, 1) := by decide +kernel
theorem d_m_give_38 : decode prog_7_method_17_code 38 = .ok (.iload_n 3, 1) := by decide +kernel
theorem d_m_give_39 : decode prog_7_method_17_code 39 = .ok (.bastore, 1) := by decide +kernel
theorem d_m_give_40 : decode prog_7_method_17_code 40 = .ok (.iconst 1, 1) := by decide +kernel
theorem d_m_give_41 : decode prog_7_method_17_code 41 = .ok (.ireturn, 1) := by decide +kernel
theorem d_m_in_0 : decode prog_7_method_3_code 0 = .ok (.iload_n 0, 1) := by decide +kernel
theorem d_m_in_1 : decode prog_7_method_3_code 1 = .ok (.iload_n 1, 1) := by decide +kernel
theorem d_m_in_2 : decode prog_7_method_3_code 2 = .ok (.if_icmp .lt 12, 3) := by decide +kernel
theorem d_m_in_5 : decode prog_7_method_3_code 5 = .ok (.iload_n 0, 1) := by decide +kernel
theorem d_m_in_6 : decode prog_7_method_3_code 6 = .ok (.iload_n 2, 1) := by decide +kernel
theorem d_m_in_7 : decode prog_7_method_3_code 7 = .ok (.if_icmp .gt 7, 3) := by decide +kernel
theorem d_m_in_10 : decode prog_7_method_3_code 10 = .ok (.iconst 1, 1) := by decide +kernel
theorem d_m_in_11 : decode prog_7_method_3_code 11 = .ok (.goto 4, 3) := by decide +kernel
theorem d_m_in_14 : decode prog_7_method_3_code 14 = .ok (.iconst 0, 1) := by decide +kernel
theorem d_m_in_15 : decode prog_7_method_3_code 15 = .ok (.ireturn, 1) := by decide +kernel
theorem d_m_isTitle_0 : decode prog_7_method_4_code 0 = .ok (.iload_n 1, 1) := by decide +kernel
theorem d_m_isTitle_1 : decode prog_7_method_4_code 1 = .ok (.iconst 0, 1) := by decide +kernel
theorem d_m_isTitle_2 : decode prog_7_method_4_code 2 = .ok (.aload_n 0, 1) := by decide +kernel
theorem d_m_isTitle_3 : decode prog_7_method_4_code 3 = .ok (.getfield 96, 3) := by decide +kernel
theorem d_m_isTitle_6 : decode prog_7_method_4_code 6 = .ok (.iconst 1, 1) := by decide +kernel
theorem d_m_isTitle_7 : decode prog_7_method_4_code 7 = .ok (.isub, 1) := by decide +kernel
theorem d_m_isTitle_8 : decode prog_7_method_4_code 8 = .ok (.invokestatic 99, 3) := by decide +kernel
theorem d_m_isTitle_11 : decode prog_7_method_4_code 11 = .ok (.ireturn, 1) := by decide +kernel
theorem d_m_left_0 : decode prog_7_method_25_code 0 = .ok (.aload_n 0, 1) := by decide +kernel
theorem d_m_left_1 : decode prog_7_method_25_code 1 = .ok (.iconst 0, 1) := by decide +kernel
theorem d_m_left_2 : decode prog_7_method_25_code 2 = .ok (.putfield 93, 3) := by decide +kernel
theorem d_m_left_5 : decode prog_7_method_25_code 5 = .ok (.iload_n 1, 1) := by decide +kernel
theorem d_m_left_6 : decode prog_7_method_25_code 6 = .ok (.iconst 0, 1) := by decide +kernel
theorem d_m_left_7 : decode prog_7_method_25_code 7 = .ok (.aload_n 0, 1) := by decide +kernel
theorem d_m_left_8 : decode prog_7_method_25_code 8 = .ok (.getfield 114, 3) := by decide +kernel
theorem d_m_left_11 : decode prog_7_method_25_code 11 = .ok (.iconst 1, 1) := by decide +kernel
theorem d_m_left_12 : decode prog_7_method_25_code 12 = .ok (.isub, 1) := by decide +kernel
theorem d_m_left_13 : decode prog_7_method_25_code 13 = .ok (.invokestatic 99, 3) := by decide +kernel
theorem d_m_left_16 : decode prog_7_method_25_code 16 = .ok (.ifCond .eq 12, 3) := by decide +kernel
theorem d_m_left_28 : decode prog_7_method_25_code 28 = .ok (.iconst (-1), 1) := by decide +kernel
theorem d_m_left_29 : decode prog_7_method_25_code 29 = .ok (.ireturn, 1) := by decide +kernel
theorem d_m_licence_0 : decode prog_7_method_9_code 0 = .ok (.aload_n 0, 1) := by decide +kernel
theorem d_m_licence_1 : decode prog_7_method_9_code 1 = .ok (.iconst 0, 1) := by decide +kernel
theorem d_m_licence_2 : decode prog_7_method_9_code 2 = .ok (.putfield 93, 3) := by decide +kernel
theorem d_m_licence_5 : decode prog_7_method_9_code 5 = .ok (.aload_n 0, 1) := by decide +kernel
theorem d_m_licence_6 : decode prog_7_method_9_code 6 = .ok (.iload_n 1, 1) := by decide +kernel
theorem d_m_licence_7 : decode prog_7_method_9_code 7 = .ok (.invokevirtual 107, 3) := by decide +kernel
theorem d_m_licence_10 : decode prog_7_method_9_code 10 = .ok (.ifCond .ne 5, 3) := by decide +kernel
theorem d_m_licence_13 : decode prog_7_method_9_code 13 = .ok (.iconst (-1), 1) := by decide +kernel
theorem d_m_licence_14 : decode prog_7_method_9_code 14 = .ok (.ireturn, 1) := by decide +kernel
theorem d_m_limit_0 : decode prog_7_method_8_code 0 = .ok (.aload_n 0, 1) := by decide +kernel
theorem d_m_limit_1 : decode prog_7_method_8_code 1 = .ok (.iconst 0, 1) := by decide +kernel
theorem d_m_limit_2 : decode prog_7_method_8_code 2 = .ok (.putfield 93, 3) := by decide +kernel
theorem d_m_limit_5 : decode prog_7_method_8_code 5 = .ok (.aload_n 0, 1) := by decide +kernel
theorem d_m_limit_6 : decode prog_7_method_8_code 6 = .ok (.iload_n 1, 1) := by decide +kernel
theorem d_m_limit_7 : decode prog_7_method_8_code 7 = .ok (.invokevirtual 107, 3) := by decide +kernel
theorem d_m_limit_10 : decode prog_7_method_8_code 10 = .ok (.ifCond .ne 5, 3) := by decide +kernel
theorem d_m_limit_13 : decode prog_7_method_8_code 13 = .ok (.iconst (-1), 1) := by decide +kernel
theorem d_m_limit_14 : decode prog_7_method_8_code 14 = .ok (.ireturn, 1) := by decide +kernel
theorem d_m_open_0 : decode prog_7_method_7_code 0 = .ok (.aload_n 0, 1) := by decide +kernel
theorem d_m_open_1 : decode prog_7_method_7_code 1 = .ok (.iconst 0, 1) := by decide +kernel
theorem d_m_open_2 : decode prog_7_method_7_code 2 = .ok (.putfield 93, 3) := by decide +kernel
theorem d_m_open_5 : decode prog_7_method_7_code 5 = .ok (.aload_n 0, 1) := by decide +kernel
theorem d_m_open_6 : decode prog_7_method_7_code 6 = .ok (.iload_n 1, 1) := by decide +kernel
theorem d_m_open_7 : decode prog_7_method_7_code 7 = .ok (.invokevirtual 107, 3) := by decide +kernel
theorem d_m_open_10 : decode prog_7_method_7_code 10 = .ok (.ifCond .ne 5, 3) := by decide +kernel
theorem d_m_open_13 : decode prog_7_method_7_code 13 = .ok (.iconst (-1), 1) := by decide +kernel
theorem d_m_open_14 : decode prog_7_method_7_code 14 = .ok (.ireturn, 1) := by decide +kernel
theorem d_m_past_0 : decode prog_7_method_27_code 0 = .ok (.iload_n 2, 1) := by decide +kernel
theorem d_m_past_1 : decode prog_7_method_27_code 1 = .ok (.istore_n 3, 1) := by decide +kernel
theorem d_m_past_2 : decode prog_7_method_27_code 2 = .ok (.iconst 0, 1) := by decide +kernel
theorem d_m_past_3 : decode prog_7_method_27_code 3 = .ok (.istore 4, 2) := by decide +kernel
theorem d_m_past_5 : decode prog_7_method_27_code 5 = .ok (.iload 4, 2) := by decide +kernel
theorem d_m_past_7 : decode prog_7_method_27_code 7 = .ok (.aload_n 0, 1) := by decide +kernel
theorem d_m_past_8 : decode prog_7_method_27_code 8 = .ok (.getfield 117, 3) := by decide +kernel
theorem d_m_past_11 : decode prog_7_method_27_code 11 = .ok (.if_icmp .ge 58, 3) := by decide +kernel
theorem d_m_past_69 : decode prog_7_method_27_code 69 = .ok (.aload_n 0, 1) := by decide +kernel
theorem d_m_past_70 : decode prog_7_method_27_code 70 = .ok (.iconst 1, 1) := by decide +kernel
theorem d_m_past_71 : decode prog_7_method_27_code 71 = .ok (.putfield 93, 3) := by decide +kernel
theorem d_m_past_74 : decode prog_7_method_27_code 74 = .ok (.iconst 0, 1) := by decide +kernel
theorem d_m_past_75 : decode prog_7_method_27_code 75 = .ok (.ireturn, 1) := by decide +kernel
theorem d_m_renew_0 : decode prog_7_method_20_code 0 = .ok (.aload_n 0, 1) := by decide +kernel
theorem d_m_renew_1 : decode prog_7_method_20_code 1 = .ok (.iconst 0, 1) := by decide +kernel
theorem d_m_renew_2 : decode prog_7_method_20_code 2 = .ok (.putfield 93, 3) := by decide +kernel
theorem d_m_renew_5 : decode prog_7_method_20_code 5 = .ok (.iload_n 1, 1) := by decide +kernel
theorem d_m_renew_6 : decode prog_7_method_20_code 6 = .ok (.iconst 0, 1) := by decide +kernel
theorem d_m_renew_7 : decode prog_7_method_20_code 7 = .ok (.aload_n 0, 1) := by decide +kernel
theorem d_m_renew_8 : decode prog_7_method_20_code 8 = .ok (.getfield 117, 3) := by decide +kernel
theorem d_m_renew_11 : decode prog_7_method_20_code 11 = .ok (.iconst 1, 1) := by decide +kernel
theorem d_m_renew_12 : decode prog_7_method_20_code 12 = .ok (.isub, 1) := by decide +kernel
theorem d_m_renew_13 : decode prog_7_method_20_code 13 = .ok (.invokestatic 99, 3) := by decide +kernel
theorem d_m_renew_16 : decode prog_7_method_20_code 16 = .ok (.ifCond .ne 5, 3) := by decide +kernel
theorem d_m_renew_19 : decode prog_7_method_20_code 19 = .ok (.iconst (-1), 1) := by decide +kernel
theorem d_m_renew_20 : decode prog_7_method_20_code 20 = .ok (.ireturn, 1) := by decide +kernel
theorem d_m_request_0 : decode prog_7_method_24_code 0 = .ok (.aload_n 0, 1) := by decide +kernel
theorem d_m_request_1 : decode prog_7_method_24_code 1 = .ok (.iload_n 1, 1) := by decide +kernel
theorem d_m_request_2 : decode prog_7_method_24_code 2 = .ok (.iconst 0, 1) := by decide +kernel
theorem d_m_request_3 : decode prog_7_method_24_code 3 = .ok (.aload_n 0, 1) := by decide +kernel
theorem d_m_request_4 : decode prog_7_method_24_code 4 = .ok (.getfield 117, 3) := by decide +kernel
theorem d_m_request_7 : decode prog_7_method_24_code 7 = .ok (.iconst 1, 1) := by decide +kernel
theorem d_m_request_8 : decode prog_7_method_24_code 8 = .ok (.isub, 1) := by decide +kernel
theorem d_m_request_9 : decode prog_7_method_24_code 9 = .ok (.invokestatic 99, 3) := by decide +kernel
theorem d_m_request_12 : decode prog_7_method_24_code 12 = .ok (.ifCond .eq 13, 3) := by decide +kernel
theorem d_m_request_25 : decode prog_7_method_24_code 25 = .ok (.iconst 1, 1) := by decide +kernel
theorem d_m_request_26 : decode prog_7_method_24_code 26 = .ok (.goto 4, 3) := by decide +kernel
theorem d_m_request_30 : decode prog_7_method_24_code 30 = .ok (.putfield 93, 3) := by decide +kernel
theorem d_m_request_33 : decode prog_7_method_24_code 33 = .ok (.aload_n 0, 1) := by decide +kernel
theorem d_m_request_34 : decode prog_7_method_24_code 34 = .ok (.getfield 93, 3) := by decide +kernel
theorem d_m_request_37 : decode prog_7_method_24_code 37 = .ok (.ifCond .le 5, 3) := by decide +kernel
theorem d_m_request_40 : decode prog_7_method_24_code 40 = .ok (.iconst 0, 1) := by decide +kernel
theorem d_m_request_41 : decode prog_7_method_24_code 41 = .ok (.ireturn, 1) := by decide +kernel
theorem d_m_right_0 : decode prog_7_method_18_code 0 = .ok (.aload_n 0, 1) := by decide +kernel
theorem d_m_right_1 : decode prog_7_method_18_code 1 = .ok (.iconst 0, 1) := by decide +kernel
theorem d_m_right_2 : decode prog_7_method_18_code 2 = .ok (.putfield 93, 3) := by decide +kernel
theorem d_m_right_5 : decode prog_7_method_18_code 5 = .ok (.aload_n 0, 1) := by decide +kernel
theorem d_m_right_6 : decode prog_7_method_18_code 6 = .ok (.iload_n 1, 1) := by decide +kernel
theorem d_m_right_7 : decode prog_7_method_18_code 7 = .ok (.invokevirtual 107, 3) := by decide +kernel
theorem d_m_right_10 : decode prog_7_method_18_code 10 = .ok (.ifCond .ne 5, 3) := by decide +kernel
theorem d_m_right_13 : decode prog_7_method_18_code 13 = .ok (.iconst (-1), 1) := by decide +kernel
theorem d_m_right_14 : decode prog_7_method_18_code 14 = .ok (.ireturn, 1) := by decide +kernel
theorem d_m_statistics_0 : decode prog_7_method_26_code 0 = .ok (.aload_n 0, 1) := by decide +kernel
theorem d_m_statistics_1 : decode prog_7_method_26_code 1 = .ok (.iconst 0, 1) := by decide +kernel
theorem d_m_statistics_2 : decode prog_7_method_26_code 2 = .ok (.putfield 93, 3) := by decide +kernel
theorem d_m_statistics_5 : decode prog_7_method_26_code 5 = .ok (.iload_n 1, 1) := by decide +kernel
theorem d_m_statistics_6 : decode prog_7_method_26_code 6 = .ok (.iconst 0, 1) := by decide +kernel
theorem d_m_statistics_7 : decode prog_7_method_26_code 7 = .ok (.bipush 99, 2) := by decide +kernel
theorem d_m_statistics_9 : decode prog_7_method_26_code 9 = .ok (.invokestatic 99, 3) := by decide +kernel
theorem d_m_statistics_12 : decode prog_7_method_26_code 12 = .ok (.ifCond .eq 12, 3) := by decide +kernel
theorem d_m_statistics_15 : decode prog_7_method_26_code 15 = .ok (.iload_n 2, 1) := by decide +kernel
theorem d_m_statistics_16 : decode prog_7_method_26_code 16 = .ok (.iconst 0, 1) := by decide +kernel
theorem d_m_statistics_17 : decode prog_7_method_26_code 17 = .ok (.iconst 3, 1) := by decide +kernel
theorem d_m_statistics_18 : decode prog_7_method_26_code 18 = .ok (.invokestatic 99, 3) := by decide +kernel
theorem d_m_statistics_21 : decode prog_7_method_26_code 21 = .ok (.ifCond .ne 5, 3) := by decide +kernel
theorem d_m_statistics_24 : decode prog_7_method_26_code 24 = .ok (.iconst (-1), 1) := by decide +kernel
theorem d_m_statistics_25 : decode prog_7_method_26_code 25 = .ok (.ireturn, 1) := by decide +kernel
theorem d_m_statistics_26 : decode prog_7_method_26_code 26 = .ok (.iconst 0, 1) := by decide +kernel
theorem d_m_statistics_27 : decode prog_7_method_26_code 27 = .ok (.istore_n 3, 1) := by decide +kernel
theorem d_m_statistics_28 : decode prog_7_method_26_code 28 = .ok (.iconst 0, 1) := by decide +kernel
theorem d_m_statistics_29 : decode prog_7_method_26_code 29 = .ok (.istore 4, 2) := by decide +kernel
theorem d_m_statistics_31 : decode prog_7_method_26_code 31 = .ok (.iload 4, 2) := by decide +kernel
theorem d_m_statistics_33 : decode prog_7_method_26_code 33 = .ok (.aload_n 0, 1) := by decide +kernel
theorem d_m_statistics_34 : decode prog_7_method_26_code 34 = .ok (.getfield 117, 3) := by decide +kernel
theorem d_m_statistics_37 : decode prog_7_method_26_code 37 = .ok (.if_icmp .ge 92, 3) := by decide +kernel
theorem d_m_statistics_129 : decode prog_7_method_26_code 129 = .ok (.iload_n 3, 1) := by decide +kernel
theorem d_m_statistics_130 : decode prog_7_method_26_code 130 = .ok (.ireturn, 1) := by decide +kernel
theorem d_m_thrown_0 : decode prog_7_method_2_code 0 = .ok (.aload_n 0, 1) := by decide +kernel
theorem d_m_thrown_1 : decode prog_7_method_2_code 1 = .ok (.getfield 93, 3) := by decide +kernel
theorem d_m_thrown_4 : decode prog_7_method_2_code 4 = .ok (.ireturn, 1) := by decide +kernel
theorem d_m_title_0 : decode prog_7_method_6_code 0 = .ok (.aload_n 0, 1) := by decide +kernel
theorem d_m_title_1 : decode prog_7_method_6_code 1 = .ok (.iconst 0, 1) := by decide +kernel
theorem d_m_title_2 : decode prog_7_method_6_code 2 = .ok (.putfield 93, 3) := by decide +kernel
theorem d_m_title_5 : decode prog_7_method_6_code 5 = .ok (.iload_n 1, 1) := by decide +kernel
theorem d_m_title_6 : decode prog_7_method_6_code 6 = .ok (.iconst 0, 1) := by decide +kernel
theorem d_m_title_7 : decode prog_7_method_6_code 7 = .ok (.bipush 99, 2) := by decide +kernel
theorem d_m_title_9 : decode prog_7_method_6_code 9 = .ok (.invokestatic 99, 3) := by decide +kernel
theorem d_m_title_12 : decode prog_7_method_6_code 12 = .ok (.ifCond .ne 6, 3) := by decide +kernel
theorem d_m_title_15 : decode prog_7_method_6_code 15 = .ok (.bipush (-2), 2) := by decide +kernel
theorem d_m_title_17 : decode prog_7_method_6_code 17 = .ok (.ireturn, 1) := by decide +kernel
theorem d_m_title_18 : decode prog_7_method_6_code 18 = .ok (.aload_n 0, 1) := by decide +kernel
theorem d_m_title_19 : decode prog_7_method_6_code 19 = .ok (.getfield 96, 3) := by decide +kernel
theorem d_m_title_22 : decode prog_7_method_6_code 22 = .ok (.bipush 50, 2) := by decide +kernel
theorem d_m_title_24 : decode prog_7_method_6_code 24 = .ok (.if_icmp .ne 6, 3) := by decide +kernel
theorem d_m_title_30 : decode prog_7_method_6_code 30 = .ok (.aload_n 0, 1) := by decide +kernel
theorem d_m_title_31 : decode prog_7_method_6_code 31 = .ok (.getfield 7, 3) := by decide +kernel
theorem d_m_title_34 : decode prog_7_method_6_code 34 = .ok (.aload_n 0, 1) := by decide +kernel
theorem d_m_title_35 : decode prog_7_method_6_code 35 = .ok (.getfield 96, 3) := by decide +kernel
theorem d_m_title_38 : decode prog_7_method_6_code 38 = .ok (.iload_n 1, 1) := by decide +kernel
theorem d_m_title_39 : decode prog_7_method_6_code 39 = .ok (.iastore, 1) := by decide +kernel
theorem d_m_title_40 : decode prog_7_method_6_code 40 = .ok (.aload_n 0, 1) := by decide +kernel
theorem d_m_title_41 : decode prog_7_method_6_code 41 = .ok (.dup, 1) := by decide +kernel
theorem d_m_title_42 : decode prog_7_method_6_code 42 = .ok (.getfield 96, 3) := by decide +kernel
theorem d_m_title_45 : decode prog_7_method_6_code 45 = .ok (.iconst 1, 1) := by decide +kernel
theorem d_m_title_46 : decode prog_7_method_6_code 46 = .ok (.iadd, 1) := by decide +kernel
theorem d_m_title_47 : decode prog_7_method_6_code 47 = .ok (.putfield 96, 3) := by decide +kernel
theorem d_m_title_50 : decode prog_7_method_6_code 50 = .ok (.aload_n 0, 1) := by decide +kernel
theorem d_m_title_51 : decode prog_7_method_6_code 51 = .ok (.getfield 96, 3) := by decide +kernel
theorem d_m_title_54 : decode prog_7_method_6_code 54 = .ok (.iconst 1, 1) := by decide +kernel
theorem d_m_title_55 : decode prog_7_method_6_code 55 = .ok (.isub, 1) := by decide +kernel
theorem d_m_title_56 : decode prog_7_method_6_code 56 = .ok (.ireturn, 1) := by decide +kernel
theorem d_m_waive_0 : decode prog_7_method_19_code 0 = .ok (.aload_n 0, 1) := by decide +kernel
theorem d_m_waive_1 : decode prog_7_method_19_code 1 = .ok (.iconst 0, 1) := by decide +kernel
theorem d_m_waive_2 : decode prog_7_method_19_code 2 = .ok (.putfield 93, 3) := by decide +kernel
theorem d_m_waive_5 : decode prog_7_method_19_code 5 = .ok (.aload_n 0, 1) := by decide +kernel
theorem d_m_waive_6 : decode prog_7_method_19_code 6 = .ok (.iload_n 1, 1) := by decide +kernel
theorem d_m_waive_7 : decode prog_7_method_19_code 7 = .ok (.invokevirtual 107, 3) := by decide +kernel
theorem d_m_waive_10 : decode prog_7_method_19_code 10 = .ok (.ifCond .ne 5, 3) := by decide +kernel
theorem d_m_waive_13 : decode prog_7_method_19_code 13 = .ok (.iconst (-1), 1) := by decide +kernel
theorem d_m_waive_14 : decode prog_7_method_19_code 14 = .ok (.ireturn, 1) := by decide +kernel
theorem d_m_why_0 : decode prog_7_method_16_code 0 = .ok (.aload_n 0, 1) := by decide +kernel
theorem d_m_why_1 : decode prog_7_method_16_code 1 = .ok (.iconst 0, 1) := by decide +kernel
theorem d_m_why_2 : decode prog_7_method_16_code 2 = .ok (.putfield 93, 3) := by decide +kernel
theorem d_m_why_5 : decode prog_7_method_16_code 5 = .ok (.aload_n 0, 1) := by decide +kernel
theorem d_m_why_6 : decode prog_7_method_16_code 6 = .ok (.getfield 89, 3) := by decide +kernel
theorem d_m_why_9 : decode prog_7_method_16_code 9 = .ok (.ireturn, 1) := by decide +kernel
