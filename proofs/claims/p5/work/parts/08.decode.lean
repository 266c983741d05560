theorem d_x_init_0 : decode prog_1_method_1_code 0 = .ok (.aload_n 0, 1) := by decide +kernel
theorem d_x_init_1 : decode prog_1_method_1_code 1 = .ok (.invokespecial 3, 3) := by decide +kernel
theorem d_x_init_4 : decode prog_1_method_1_code 4 = .ok (.aload_n 0, 1) := by decide +kernel
theorem d_x_init_5 : decode prog_1_method_1_code 5 = .ok (.new 9, 3) := by decide +kernel
theorem d_x_init_8 : decode prog_1_method_1_code 8 = .ok (.dup, 1) := by decide +kernel
theorem d_x_init_9 : decode prog_1_method_1_code 9 = .ok (.invokespecial 11, 3) := by decide +kernel
theorem d_x_init_12 : decode prog_1_method_1_code 12 = .ok (.putfield 12, 3) := by decide +kernel
theorem d_x_init_15 : decode prog_1_method_1_code 15 = .ok (.aload_n 0, 1) := by decide +kernel
theorem d_x_init_16 : decode prog_1_method_1_code 16 = .ok (.new 16, 3) := by decide +kernel
theorem d_x_init_19 : decode prog_1_method_1_code 19 = .ok (.dup, 1) := by decide +kernel
theorem d_x_init_20 : decode prog_1_method_1_code 20 = .ok (.invokespecial 18, 3) := by decide +kernel
theorem d_x_init_23 : decode prog_1_method_1_code 23 = .ok (.putfield 19, 3) := by decide +kernel
theorem d_x_init_26 : decode prog_1_method_1_code 26 = .ok (.aload_n 0, 1) := by decide +kernel
theorem d_x_init_27 : decode prog_1_method_1_code 27 = .ok (.new 23, 3) := by decide +kernel
theorem d_x_init_30 : decode prog_1_method_1_code 30 = .ok (.dup, 1) := by decide +kernel
theorem d_x_init_31 : decode prog_1_method_1_code 31 = .ok (.invokespecial 25, 3) := by decide +kernel
theorem d_x_init_34 : decode prog_1_method_1_code 34 = .ok (.putfield 26, 3) := by decide +kernel
theorem d_x_init_37 : decode prog_1_method_1_code 37 = .ok (.aload_n 0, 1) := by decide +kernel
theorem d_x_init_38 : decode prog_1_method_1_code 38 = .ok (.new 30, 3) := by decide +kernel
theorem d_x_init_41 : decode prog_1_method_1_code 41 = .ok (.dup, 1) := by decide +kernel
theorem d_x_init_42 : decode prog_1_method_1_code 42 = .ok (.invokespecial 32, 3) := by decide +kernel
theorem d_x_init_45 : decode prog_1_method_1_code 45 = .ok (.putfield 33, 3) := by decide +kernel
theorem d_x_init_48 : decode prog_1_method_1_code 48 = .ok (.aload_n 0, 1) := by decide +kernel
theorem d_x_init_49 : decode prog_1_method_1_code 49 = .ok (.bipush 100, 2) := by decide +kernel
theorem d_x_init_51 : decode prog_1_method_1_code 51 = .ok (.newarray .int, 2) := by decide +kernel
theorem d_x_init_53 : decode prog_1_method_1_code 53 = .ok (.putfield 37, 3) := by decide +kernel
theorem d_x_init_56 : decode prog_1_method_1_code 56 = .ok (.aload_n 0, 1) := by decide +kernel
theorem d_x_init_57 : decode prog_1_method_1_code 57 = .ok (.bipush 100, 2) := by decide +kernel
theorem d_x_init_59 : decode prog_1_method_1_code 59 = .ok (.newarray .int, 2) := by decide +kernel
theorem d_x_init_61 : decode prog_1_method_1_code 61 = .ok (.putfield 41, 3) := by decide +kernel
theorem d_x_init_64 : decode prog_1_method_1_code 64 = .ok (.aload_n 0, 1) := by decide +kernel
theorem d_x_init_65 : decode prog_1_method_1_code 65 = .ok (.iconst 0, 1) := by decide +kernel
theorem d_x_init_66 : decode prog_1_method_1_code 66 = .ok (.putfield 44, 3) := by decide +kernel
theorem d_x_init_69 : decode prog_1_method_1_code 69 = .ok (.aload_n 0, 1) := by decide +kernel
theorem d_x_init_70 : decode prog_1_method_1_code 70 = .ok (.iconst (-1), 1) := by decide +kernel
theorem d_x_init_71 : decode prog_1_method_1_code 71 = .ok (.putfield 48, 3) := by decide +kernel
theorem d_x_init_74 : decode prog_1_method_1_code 74 = .ok (.return_, 1) := by decide +kernel
theorem d_x_ask_0 : decode prog_1_method_7_code 0 = .ok (.aload_n 0, 1) := by decide +kernel
theorem d_x_ask_1 : decode prog_1_method_7_code 1 = .ok (.getfield 12, 3) := by decide +kernel
theorem d_x_ask_4 : decode prog_1_method_7_code 4 = .ok (.iload_n 2, 1) := by decide +kernel
theorem d_x_ask_5 : decode prog_1_method_7_code 5 = .ok (.invokevirtual 59, 3) := by decide +kernel
theorem d_x_ask_8 : decode prog_1_method_7_code 8 = .ok (.ifCond .ne 5, 3) := by decide +kernel
theorem d_x_ask_11 : decode prog_1_method_7_code 11 = .ok (.iconst (-1), 1) := by decide +kernel
theorem d_x_ask_12 : decode prog_1_method_7_code 12 = .ok (.ireturn, 1) := by decide +kernel
theorem d_x_ask_13 : decode prog_1_method_7_code 13 = .ok (.iload_n 1, 1) := by decide +kernel
theorem d_x_ask_14 : decode prog_1_method_7_code 14 = .ok (.invokestatic 88, 3) := by decide +kernel
theorem d_x_ask_17 : decode prog_1_method_7_code 17 = .ok (.ifCond .eq 22, 3) := by decide +kernel
theorem d_x_ask_20 : decode prog_1_method_7_code 20 = .ok (.iload_n 3, 1) := by decide +kernel
theorem d_x_ask_21 : decode prog_1_method_7_code 21 = .ok (.invokestatic 66, 3) := by decide +kernel
theorem d_x_ask_24 : decode prog_1_method_7_code 24 = .ok (.ifCond .eq 15, 3) := by decide +kernel
theorem d_x_ask_27 : decode prog_1_method_7_code 27 = .ok (.iload 4, 2) := by decide +kernel
theorem d_x_ask_29 : decode prog_1_method_7_code 29 = .ok (.iconst 1, 1) := by decide +kernel
theorem d_x_ask_30 : decode prog_1_method_7_code 30 = .ok (.sipush 1000, 3) := by decide +kernel
theorem d_x_ask_33 : decode prog_1_method_7_code 33 = .ok (.invokestatic 84, 3) := by decide +kernel
theorem d_x_ask_36 : decode prog_1_method_7_code 36 = .ok (.ifCond .ne 6, 3) := by decide +kernel
theorem d_x_ask_39 : decode prog_1_method_7_code 39 = .ok (.bipush (-2), 2) := by decide +kernel
theorem d_x_ask_41 : decode prog_1_method_7_code 41 = .ok (.ireturn, 1) := by decide +kernel
theorem d_x_ask_42 : decode prog_1_method_7_code 42 = .ok (.aload_n 0, 1) := by decide +kernel
theorem d_x_ask_43 : decode prog_1_method_7_code 43 = .ok (.iload 5, 2) := by decide +kernel
theorem d_x_ask_45 : decode prog_1_method_7_code 45 = .ok (.invokevirtual 91, 3) := by decide +kernel
theorem d_x_ask_48 : decode prog_1_method_7_code 48 = .ok (.ifCond .ne 6, 3) := by decide +kernel
theorem d_x_ask_51 : decode prog_1_method_7_code 51 = .ok (.bipush (-2), 2) := by decide +kernel
theorem d_x_ask_53 : decode prog_1_method_7_code 53 = .ok (.ireturn, 1) := by decide +kernel
theorem d_x_ask_54 : decode prog_1_method_7_code 54 = .ok (.aload_n 0, 1) := by decide +kernel
theorem d_x_ask_55 : decode prog_1_method_7_code 55 = .ok (.getfield 33, 3) := by decide +kernel
theorem d_x_ask_58 : decode prog_1_method_7_code 58 = .ok (.iload_n 1, 1) := by decide +kernel
theorem d_x_ask_59 : decode prog_1_method_7_code 59 = .ok (.iload_n 2, 1) := by decide +kernel
theorem d_x_ask_60 : decode prog_1_method_7_code 60 = .ok (.iload_n 3, 1) := by decide +kernel
theorem d_x_ask_61 : decode prog_1_method_7_code 61 = .ok (.iload 4, 2) := by decide +kernel
theorem d_x_ask_63 : decode prog_1_method_7_code 63 = .ok (.iload 5, 2) := by decide +kernel
theorem d_x_ask_65 : decode prog_1_method_7_code 65 = .ok (.invokevirtual 94, 3) := by decide +kernel
theorem d_x_ask_68 : decode prog_1_method_7_code 68 = .ok (.istore 6, 2) := by decide +kernel
theorem d_x_ask_70 : decode prog_1_method_7_code 70 = .ok (.iload 6, 2) := by decide +kernel
theorem d_x_ask_72 : decode prog_1_method_7_code 72 = .ok (.bipush (-4), 2) := by decide +kernel
theorem d_x_ask_74 : decode prog_1_method_7_code 74 = .ok (.if_icmp .ne 6, 3) := by decide +kernel
theorem d_x_ask_77 : decode prog_1_method_7_code 77 = .ok (.bipush (-4), 2) := by decide +kernel
theorem d_x_ask_79 : decode prog_1_method_7_code 79 = .ok (.ireturn, 1) := by decide +kernel
theorem d_x_ask_80 : decode prog_1_method_7_code 80 = .ok (.aload_n 0, 1) := by decide +kernel
theorem d_x_ask_81 : decode prog_1_method_7_code 81 = .ok (.iload 6, 2) := by decide +kernel
theorem d_x_ask_83 : decode prog_1_method_7_code 83 = .ok (.iload_n 2, 1) := by decide +kernel
theorem d_x_ask_84 : decode prog_1_method_7_code 84 = .ok (.iload_n 3, 1) := by decide +kernel
theorem d_x_ask_85 : decode prog_1_method_7_code 85 = .ok (.iload 5, 2) := by decide +kernel
theorem d_x_ask_87 : decode prog_1_method_7_code 87 = .ok (.invokevirtual 95, 3) := by decide +kernel
theorem d_x_ask_90 : decode prog_1_method_7_code 90 = .ok (.aload_n 0, 1) := by decide +kernel
theorem d_x_ask_91 : decode prog_1_method_7_code 91 = .ok (.getfield 33, 3) := by decide +kernel
theorem d_x_ask_94 : decode prog_1_method_7_code 94 = .ok (.iload 6, 2) := by decide +kernel
theorem d_x_ask_96 : decode prog_1_method_7_code 96 = .ok (.invokevirtual 99, 3) := by decide +kernel
theorem d_x_ask_99 : decode prog_1_method_7_code 99 = .ok (.ifCond .eq 8, 3) := by decide +kernel
theorem d_x_ask_102 : decode prog_1_method_7_code 102 = .ok (.iload 6, 2) := by decide +kernel
theorem d_x_ask_104 : decode prog_1_method_7_code 104 = .ok (.goto 8, 3) := by decide +kernel
theorem d_x_ask_107 : decode prog_1_method_7_code 107 = .ok (.bipush (-10), 2) := by decide +kernel
theorem d_x_ask_109 : decode prog_1_method_7_code 109 = .ok (.iload 6, 2) := by decide +kernel
theorem d_x_ask_111 : decode prog_1_method_7_code 111 = .ok (.isub, 1) := by decide +kernel
theorem d_x_ask_112 : decode prog_1_method_7_code 112 = .ok (.ireturn, 1) := by decide +kernel
theorem d_x_counted_0 : decode prog_1_method_14_code 0 = .ok (.aload_n 0, 1) := by decide +kernel
theorem d_x_counted_1 : decode prog_1_method_14_code 1 = .ok (.getfield 12, 3) := by decide +kernel
theorem d_x_counted_4 : decode prog_1_method_14_code 4 = .ok (.iload_n 1, 1) := by decide +kernel
theorem d_x_counted_5 : decode prog_1_method_14_code 5 = .ok (.invokevirtual 59, 3) := by decide +kernel
theorem d_x_counted_8 : decode prog_1_method_14_code 8 = .ok (.ifCond .ne 5, 3) := by decide +kernel
theorem d_x_counted_11 : decode prog_1_method_14_code 11 = .ok (.iconst (-1), 1) := by decide +kernel
theorem d_x_counted_12 : decode prog_1_method_14_code 12 = .ok (.ireturn, 1) := by decide +kernel
theorem d_x_counted_13 : decode prog_1_method_14_code 13 = .ok (.iload_n 2, 1) := by decide +kernel
theorem d_x_counted_14 : decode prog_1_method_14_code 14 = .ok (.invokestatic 66, 3) := by decide +kernel
theorem d_x_counted_17 : decode prog_1_method_14_code 17 = .ok (.ifCond .eq 18, 3) := by decide +kernel
theorem d_x_counted_20 : decode prog_1_method_14_code 20 = .ok (.iload_n 3, 1) := by decide +kernel
theorem d_x_counted_21 : decode prog_1_method_14_code 21 = .ok (.invokestatic 69, 3) := by decide +kernel
theorem d_x_counted_24 : decode prog_1_method_14_code 24 = .ok (.ifCond .eq 11, 3) := by decide +kernel
theorem d_x_counted_27 : decode prog_1_method_14_code 27 = .ok (.iload 4, 2) := by decide +kernel
theorem d_x_counted_29 : decode prog_1_method_14_code 29 = .ok (.invokestatic 78, 3) := by decide +kernel
theorem d_x_counted_32 : decode prog_1_method_14_code 32 = .ok (.ifCond .ne 6, 3) := by decide +kernel
theorem d_x_counted_35 : decode prog_1_method_14_code 35 = .ok (.bipush (-2), 2) := by decide +kernel
theorem d_x_counted_37 : decode prog_1_method_14_code 37 = .ok (.ireturn, 1) := by decide +kernel
theorem d_x_counted_38 : decode prog_1_method_14_code 38 = .ok (.aload_n 0, 1) := by decide +kernel
theorem d_x_counted_39 : decode prog_1_method_14_code 39 = .ok (.getfield 33, 3) := by decide +kernel
theorem d_x_counted_42 : decode prog_1_method_14_code 42 = .ok (.iload_n 1, 1) := by decide +kernel
theorem d_x_counted_43 : decode prog_1_method_14_code 43 = .ok (.iload_n 2, 1) := by decide +kernel
theorem d_x_counted_44 : decode prog_1_method_14_code 44 = .ok (.iload_n 3, 1) := by decide +kernel
theorem d_x_counted_45 : decode prog_1_method_14_code 45 = .ok (.iload 4, 2) := by decide +kernel
theorem d_x_counted_47 : decode prog_1_method_14_code 47 = .ok (.invokevirtual 128, 3) := by decide +kernel
theorem d_x_counted_50 : decode prog_1_method_14_code 50 = .ok (.ireturn, 1) := by decide +kernel
theorem d_x_decide_0 : decode prog_1_method_19_code 0 = .ok (.aload_n 0, 1) := by decide +kernel
theorem d_x_decide_1 : decode prog_1_method_19_code 1 = .ok (.getfield 12, 3) := by decide +kernel
theorem d_x_decide_4 : decode prog_1_method_19_code 4 = .ok (.getfield 62, 3) := by decide +kernel
theorem d_x_decide_7 : decode prog_1_method_19_code 7 = .ok (.iload_n 2, 1) := by decide +kernel
theorem d_x_decide_8 : decode prog_1_method_19_code 8 = .ok (.baload, 1) := by decide +kernel
theorem d_x_decide_9 : decode prog_1_method_19_code 9 = .ok (.ifCond .eq 13, 3) := by decide +kernel
theorem d_x_decide_12 : decode prog_1_method_19_code 12 = .ok (.aload_n 0, 1) := by decide +kernel
theorem d_x_decide_13 : decode prog_1_method_19_code 13 = .ok (.getfield 33, 3) := by decide +kernel
theorem d_x_decide_16 : decode prog_1_method_19_code 16 = .ok (.iload_n 1, 1) := by decide +kernel
theorem d_x_decide_17 : decode prog_1_method_19_code 17 = .ok (.iconst 1, 1) := by decide +kernel
theorem d_x_decide_18 : decode prog_1_method_19_code 18 = .ok (.invokevirtual 192, 3) := by decide +kernel
theorem d_x_decide_21 : decode prog_1_method_19_code 21 = .ok (.return_, 1) := by decide +kernel
theorem d_x_decide_22 : decode prog_1_method_19_code 22 = .ok (.aload_n 0, 1) := by decide +kernel
theorem d_x_decide_23 : decode prog_1_method_19_code 23 = .ok (.getfield 26, 3) := by decide +kernel
theorem d_x_decide_26 : decode prog_1_method_19_code 26 = .ok (.iload_n 2, 1) := by decide +kernel
theorem d_x_decide_27 : decode prog_1_method_19_code 27 = .ok (.iload_n 3, 1) := by decide +kernel
theorem d_x_decide_28 : decode prog_1_method_19_code 28 = .ok (.iload 4, 2) := by decide +kernel
theorem d_x_decide_30 : decode prog_1_method_19_code 30 = .ok (.invokevirtual 196, 3) := by decide +kernel
theorem d_x_decide_33 : decode prog_1_method_19_code 33 = .ok (.istore 5, 2) := by decide +kernel
theorem d_x_decide_35 : decode prog_1_method_19_code 35 = .ok (.iload 5, 2) := by decide +kernel
theorem d_x_decide_37 : decode prog_1_method_19_code 37 = .ok (.iconst (-1), 1) := by decide +kernel
theorem d_x_decide_38 : decode prog_1_method_19_code 38 = .ok (.if_icmp .eq 38, 3) := by decide +kernel
theorem d_x_decide_41 : decode prog_1_method_19_code 41 = .ok (.aload_n 0, 1) := by decide +kernel
theorem d_x_decide_42 : decode prog_1_method_19_code 42 = .ok (.getfield 26, 3) := by decide +kernel
theorem d_x_decide_45 : decode prog_1_method_19_code 45 = .ok (.getfield 171, 3) := by decide +kernel
theorem d_x_decide_48 : decode prog_1_method_19_code 48 = .ok (.iload 5, 2) := by decide +kernel
theorem d_x_decide_50 : decode prog_1_method_19_code 50 = .ok (.dup2, 1) := by decide +kernel
theorem d_x_decide_51 : decode prog_1_method_19_code 51 = .ok (.iaload, 1) := by decide +kernel
theorem d_x_decide_52 : decode prog_1_method_19_code 52 = .ok (.iconst 1, 1) := by decide +kernel
theorem d_x_decide_53 : decode prog_1_method_19_code 53 = .ok (.isub, 1) := by decide +kernel
theorem d_x_decide_54 : decode prog_1_method_19_code 54 = .ok (.iastore, 1) := by decide +kernel
theorem d_x_decide_55 : decode prog_1_method_19_code 55 = .ok (.aload_n 0, 1) := by decide +kernel
theorem d_x_decide_56 : decode prog_1_method_19_code 56 = .ok (.getfield 33, 3) := by decide +kernel
theorem d_x_decide_59 : decode prog_1_method_19_code 59 = .ok (.getfield 156, 3) := by decide +kernel
theorem d_x_decide_62 : decode prog_1_method_19_code 62 = .ok (.iload_n 1, 1) := by decide +kernel
theorem d_x_decide_63 : decode prog_1_method_19_code 63 = .ok (.iload 5, 2) := by decide +kernel
theorem d_x_decide_65 : decode prog_1_method_19_code 65 = .ok (.iastore, 1) := by decide +kernel
theorem d_x_decide_66 : decode prog_1_method_19_code 66 = .ok (.aload_n 0, 1) := by decide +kernel
theorem d_x_decide_67 : decode prog_1_method_19_code 67 = .ok (.getfield 33, 3) := by decide +kernel
theorem d_x_decide_70 : decode prog_1_method_19_code 70 = .ok (.iload_n 1, 1) := by decide +kernel
theorem d_x_decide_71 : decode prog_1_method_19_code 71 = .ok (.iconst 2, 1) := by decide +kernel
theorem d_x_decide_72 : decode prog_1_method_19_code 72 = .ok (.invokevirtual 192, 3) := by decide +kernel
theorem d_x_decide_75 : decode prog_1_method_19_code 75 = .ok (.return_, 1) := by decide +kernel
theorem d_x_decide_76 : decode prog_1_method_19_code 76 = .ok (.aload_n 0, 1) := by decide +kernel
theorem d_x_decide_77 : decode prog_1_method_19_code 77 = .ok (.iload_n 2, 1) := by decide +kernel
theorem d_x_decide_78 : decode prog_1_method_19_code 78 = .ok (.iload_n 3, 1) := by decide +kernel
theorem d_x_decide_79 : decode prog_1_method_19_code 79 = .ok (.iload 4, 2) := by decide +kernel
theorem d_x_decide_81 : decode prog_1_method_19_code 81 = .ok (.invokevirtual 200, 3) := by decide +kernel
theorem d_x_decide_84 : decode prog_1_method_19_code 84 = .ok (.istore 6, 2) := by decide +kernel
theorem d_x_decide_86 : decode prog_1_method_19_code 86 = .ok (.iload 6, 2) := by decide +kernel
theorem d_x_decide_88 : decode prog_1_method_19_code 88 = .ok (.iconst (-1), 1) := by decide +kernel
theorem d_x_decide_89 : decode prog_1_method_19_code 89 = .ok (.if_icmp .ne 15, 3) := by decide +kernel
theorem d_x_decide_92 : decode prog_1_method_19_code 92 = .ok (.aload_n 0, 1) := by decide +kernel
theorem d_x_decide_93 : decode prog_1_method_19_code 93 = .ok (.getfield 33, 3) := by decide +kernel
theorem d_x_decide_96 : decode prog_1_method_19_code 96 = .ok (.iload_n 1, 1) := by decide +kernel
theorem d_x_decide_97 : decode prog_1_method_19_code 97 = .ok (.iconst 3, 1) := by decide +kernel
theorem d_x_decide_98 : decode prog_1_method_19_code 98 = .ok (.invokevirtual 192, 3) := by decide +kernel
theorem d_x_decide_101 : decode prog_1_method_19_code 101 = .ok (.goto 11, 3) := by decide +kernel
theorem d_x_decide_104 : decode prog_1_method_19_code 104 = .ok (.aload_n 0, 1) := by decide +kernel
theorem d_x_decide_105 : decode prog_1_method_19_code 105 = .ok (.iload_n 1, 1) := by decide +kernel
theorem d_x_decide_106 : decode prog_1_method_19_code 106 = .ok (.iload_n 2, 1) := by decide +kernel
theorem d_x_decide_107 : decode prog_1_method_19_code 107 = .ok (.iload 6, 2) := by decide +kernel
theorem d_x_decide_109 : decode prog_1_method_19_code 109 = .ok (.invokevirtual 203, 3) := by decide +kernel
theorem d_x_decide_112 : decode prog_1_method_19_code 112 = .ok (.return_, 1) := by decide +kernel
theorem d_x_decideBeyondLimits_0 : decode prog_1_method_20_code 0 = .ok (.aload_n 0, 1) := by decide +kernel
theorem d_x_decideBeyondLimits_1 : decode prog_1_method_20_code 1 = .ok (.getfield 37, 3) := by decide +kernel
theorem d_x_decideBeyondLimits_4 : decode prog_1_method_20_code 4 = .ok (.aload_n 0, 1) := by decide +kernel
theorem d_x_decideBeyondLimits_5 : decode prog_1_method_20_code 5 = .ok (.getfield 12, 3) := by decide +kernel
theorem d_x_decideBeyondLimits_8 : decode prog_1_method_20_code 8 = .ok (.getfield 207, 3) := by decide +kernel
theorem d_x_decideBeyondLimits_11 : decode prog_1_method_20_code 11 = .ok (.iload_n 2, 1) := by decide +kernel
theorem d_x_decideBeyondLimits_12 : decode prog_1_method_20_code 12 = .ok (.iaload, 1) := by decide +kernel
theorem d_x_decideBeyondLimits_13 : decode prog_1_method_20_code 13 = .ok (.iaload, 1) := by decide +kernel
theorem d_x_decideBeyondLimits_14 : decode prog_1_method_20_code 14 = .ok (.istore 4, 2) := by decide +kernel
theorem d_x_decideBeyondLimits_16 : decode prog_1_method_20_code 16 = .ok (.aload_n 0, 1) := by decide +kernel
theorem d_x_decideBeyondLimits_17 : decode prog_1_method_20_code 17 = .ok (.getfield 12, 3) := by decide +kernel
theorem d_x_decideBeyondLimits_20 : decode prog_1_method_20_code 20 = .ok (.getfield 109, 3) := by decide +kernel
theorem d_x_decideBeyondLimits_23 : decode prog_1_method_20_code 23 = .ok (.iload_n 2, 1) := by decide +kernel
theorem d_x_decideBeyondLimits_24 : decode prog_1_method_20_code 24 = .ok (.iaload, 1) := by decide +kernel
theorem d_x_decideBeyondLimits_25 : decode prog_1_method_20_code 25 = .ok (.ifCond .le 28, 3) := by decide +kernel
theorem d_x_decideBeyondLimits_28 : decode prog_1_method_20_code 28 = .ok (.aload_n 0, 1) := by decide +kernel
theorem d_x_decideBeyondLimits_29 : decode prog_1_method_20_code 29 = .ok (.getfield 12, 3) := by decide +kernel
theorem d_x_decideBeyondLimits_32 : decode prog_1_method_20_code 32 = .ok (.getfield 109, 3) := by decide +kernel
theorem d_x_decideBeyondLimits_35 : decode prog_1_method_20_code 35 = .ok (.iload_n 2, 1) := by decide +kernel
theorem d_x_decideBeyondLimits_36 : decode prog_1_method_20_code 36 = .ok (.dup2, 1) := by decide +kernel
theorem d_x_decideBeyondLimits_37 : decode prog_1_method_20_code 37 = .ok (.iaload, 1) := by decide +kernel
theorem d_x_decideBeyondLimits_38 : decode prog_1_method_20_code 38 = .ok (.iconst 1, 1) := by decide +kernel
theorem d_x_decideBeyondLimits_39 : decode prog_1_method_20_code 39 = .ok (.isub, 1) := by decide +kernel
theorem d_x_decideBeyondLimits_40 : decode prog_1_method_20_code 40 = .ok (.iastore, 1) := by decide +kernel
theorem d_x_decideBeyondLimits_41 : decode prog_1_method_20_code 41 = .ok (.aload_n 0, 1) := by decide +kernel
theorem d_x_decideBeyondLimits_42 : decode prog_1_method_20_code 42 = .ok (.getfield 33, 3) := by decide +kernel
theorem d_x_decideBeyondLimits_45 : decode prog_1_method_20_code 45 = .ok (.iload_n 1, 1) := by decide +kernel
theorem d_x_decideBeyondLimits_46 : decode prog_1_method_20_code 46 = .ok (.iconst 4, 1) := by decide +kernel
theorem d_x_decideBeyondLimits_47 : decode prog_1_method_20_code 47 = .ok (.invokevirtual 192, 3) := by decide +kernel
theorem d_x_decideBeyondLimits_50 : decode prog_1_method_20_code 50 = .ok (.goto 35, 3) := by decide +kernel
theorem d_x_decideBeyondLimits_53 : decode prog_1_method_20_code 53 = .ok (.iload 4, 2) := by decide +kernel
theorem d_x_decideBeyondLimits_55 : decode prog_1_method_20_code 55 = .ok (.ifCond .le 25, 3) := by decide +kernel
theorem d_x_decideBeyondLimits_58 : decode prog_1_method_20_code 58 = .ok (.aload_n 0, 1) := by decide +kernel
theorem d_x_decideBeyondLimits_59 : decode prog_1_method_20_code 59 = .ok (.getfield 33, 3) := by decide +kernel
theorem d_x_decideBeyondLimits_62 : decode prog_1_method_20_code 62 = .ok (.iload_n 1, 1) := by decide +kernel
theorem d_x_decideBeyondLimits_63 : decode prog_1_method_20_code 63 = .ok (.iload 4, 2) := by decide +kernel
theorem d_x_decideBeyondLimits_65 : decode prog_1_method_20_code 65 = .ok (.invokevirtual 210, 3) := by decide +kernel
theorem d_x_decideBeyondLimits_68 : decode prog_1_method_20_code 68 = .ok (.aload_n 0, 1) := by decide +kernel
theorem d_x_decideBeyondLimits_69 : decode prog_1_method_20_code 69 = .ok (.getfield 33, 3) := by decide +kernel
theorem d_x_decideBeyondLimits_72 : decode prog_1_method_20_code 72 = .ok (.iload_n 1, 1) := by decide +kernel
theorem d_x_decideBeyondLimits_73 : decode prog_1_method_20_code 73 = .ok (.iconst 5, 1) := by decide +kernel
theorem d_x_decideBeyondLimits_74 : decode prog_1_method_20_code 74 = .ok (.invokevirtual 192, 3) := by decide +kernel
theorem d_x_decideBeyondLimits_77 : decode prog_1_method_20_code 77 = .ok (.goto 8, 3) := by decide +kernel
theorem d_x_decideBeyondLimits_80 : decode prog_1_method_20_code 80 = .ok (.aload_n 0, 1) := by decide +kernel
theorem d_x_decideBeyondLimits_81 : decode prog_1_method_20_code 81 = .ok (.iload_n 3, 1) := by decide +kernel
theorem d_x_decideBeyondLimits_82 : decode prog_1_method_20_code 82 = .ok (.putfield 48, 3) := by decide +kernel
theorem d_x_decideBeyondLimits_85 : decode prog_1_method_20_code 85 = .ok (.return_, 1) := by decide +kernel
theorem d_x_delete_0 : decode prog_1_method_13_code 0 = .ok (.aload_n 0, 1) := by decide +kernel
theorem d_x_delete_1 : decode prog_1_method_13_code 1 = .ok (.getfield 33, 3) := by decide +kernel
theorem d_x_delete_4 : decode prog_1_method_13_code 4 = .ok (.iload_n 1, 1) := by decide +kernel
theorem d_x_delete_5 : decode prog_1_method_13_code 5 = .ok (.invokevirtual 112, 3) := by decide +kernel
theorem d_x_delete_8 : decode prog_1_method_13_code 8 = .ok (.ifCond .ne 5, 3) := by decide +kernel
theorem d_x_delete_11 : decode prog_1_method_13_code 11 = .ok (.iconst (-1), 1) := by decide +kernel
theorem d_x_delete_12 : decode prog_1_method_13_code 12 = .ok (.ireturn, 1) := by decide +kernel
theorem d_x_delete_13 : decode prog_1_method_13_code 13 = .ok (.aload_n 0, 1) := by decide +kernel
theorem d_x_delete_14 : decode prog_1_method_13_code 14 = .ok (.iload_n 2, 1) := by decide +kernel
theorem d_x_delete_15 : decode prog_1_method_13_code 15 = .ok (.invokevirtual 91, 3) := by decide +kernel
theorem d_x_delete_18 : decode prog_1_method_13_code 18 = .ok (.ifCond .ne 6, 3) := by decide +kernel
theorem d_x_delete_21 : decode prog_1_method_13_code 21 = .ok (.bipush (-2), 2) := by decide +kernel
theorem d_x_delete_23 : decode prog_1_method_13_code 23 = .ok (.ireturn, 1) := by decide +kernel
theorem d_x_delete_24 : decode prog_1_method_13_code 24 = .ok (.aload_n 0, 1) := by decide +kernel
theorem d_x_delete_25 : decode prog_1_method_13_code 25 = .ok (.getfield 33, 3) := by decide +kernel
theorem d_x_delete_28 : decode prog_1_method_13_code 28 = .ok (.iload_n 1, 1) := by decide +kernel
theorem d_x_delete_29 : decode prog_1_method_13_code 29 = .ok (.invokevirtual 119, 3) := by decide +kernel
theorem d_x_delete_32 : decode prog_1_method_13_code 32 = .ok (.ifCond .ne 6, 3) := by decide +kernel
theorem d_x_delete_35 : decode prog_1_method_13_code 35 = .ok (.bipush (-3), 2) := by decide +kernel
theorem d_x_delete_37 : decode prog_1_method_13_code 37 = .ok (.ireturn, 1) := by decide +kernel
theorem d_x_delete_38 : decode prog_1_method_13_code 38 = .ok (.aload_n 0, 1) := by decide +kernel
theorem d_x_delete_39 : decode prog_1_method_13_code 39 = .ok (.getfield 33, 3) := by decide +kernel
theorem d_x_delete_42 : decode prog_1_method_13_code 42 = .ok (.getfield 122, 3) := by decide +kernel
theorem d_x_delete_45 : decode prog_1_method_13_code 45 = .ok (.iload_n 1, 1) := by decide +kernel
theorem d_x_delete_46 : decode prog_1_method_13_code 46 = .ok (.iload_n 2, 1) := by decide +kernel
theorem d_x_delete_47 : decode prog_1_method_13_code 47 = .ok (.iastore, 1) := by decide +kernel
theorem d_x_delete_48 : decode prog_1_method_13_code 48 = .ok (.aload_n 0, 1) := by decide +kernel
theorem d_x_delete_49 : decode prog_1_method_13_code 49 = .ok (.getfield 33, 3) := by decide +kernel
theorem d_x_delete_52 : decode prog_1_method_13_code 52 = .ok (.iload_n 1, 1) := by decide +kernel
theorem d_x_delete_53 : decode prog_1_method_13_code 53 = .ok (.iload_n 2, 1) := by decide +kernel
theorem d_x_delete_54 : decode prog_1_method_13_code 54 = .ok (.invokevirtual 125, 3) := by decide +kernel
theorem d_x_delete_57 : decode prog_1_method_13_code 57 = .ok (.ifCond .eq 7, 3) := by decide +kernel
theorem d_x_delete_60 : decode prog_1_method_13_code 60 = .ok (.iconst 0, 1) := by decide +kernel
theorem d_x_delete_61 : decode prog_1_method_13_code 61 = .ok (.goto 4, 3) := by decide +kernel
theorem d_x_delete_64 : decode prog_1_method_13_code 64 = .ok (.iconst 1, 1) := by decide +kernel
theorem d_x_delete_65 : decode prog_1_method_13_code 65 = .ok (.ireturn, 1) := by decide +kernel
theorem d_x_fee_0 : decode prog_1_method_6_code 0 = .ok (.iload_n 1, 1) := by decide +kernel
theorem d_x_fee_1 : decode prog_1_method_6_code 1 = .ok (.invokestatic 51, 3) := by decide +kernel
theorem d_x_fee_4 : decode prog_1_method_6_code 4 = .ok (.ifCond .eq 14, 3) := by decide +kernel
theorem d_x_fee_7 : decode prog_1_method_6_code 7 = .ok (.iload_n 2, 1) := by decide +kernel
theorem d_x_fee_8 : decode prog_1_method_6_code 8 = .ok (.iconst 0, 1) := by decide +kernel
theorem d_x_fee_9 : decode prog_1_method_6_code 9 = .ok (.sipush 10000, 3) := by decide +kernel
theorem d_x_fee_12 : decode prog_1_method_6_code 12 = .ok (.invokestatic 84, 3) := by decide +kernel
theorem d_x_fee_15 : decode prog_1_method_6_code 15 = .ok (.ifCond .ne 6, 3) := by decide +kernel
theorem d_x_fee_18 : decode prog_1_method_6_code 18 = .ok (.bipush (-2), 2) := by decide +kernel
theorem d_x_fee_20 : decode prog_1_method_6_code 20 = .ok (.ireturn, 1) := by decide +kernel
theorem d_x_fee_21 : decode prog_1_method_6_code 21 = .ok (.aload_n 0, 1) := by decide +kernel
theorem d_x_fee_22 : decode prog_1_method_6_code 22 = .ok (.getfield 37, 3) := by decide +kernel
theorem d_x_fee_25 : decode prog_1_method_6_code 25 = .ok (.iload_n 1, 1) := by decide +kernel
theorem d_x_fee_26 : decode prog_1_method_6_code 26 = .ok (.iload_n 2, 1) := by decide +kernel
theorem d_x_fee_27 : decode prog_1_method_6_code 27 = .ok (.iastore, 1) := by decide +kernel
theorem d_x_fee_28 : decode prog_1_method_6_code 28 = .ok (.iconst 1, 1) := by decide +kernel
theorem d_x_fee_29 : decode prog_1_method_6_code 29 = .ok (.ireturn, 1) := by decide +kernel
theorem d_x_firstLimitReached_0 : decode prog_1_method_21_code 0 = .ok (.iconst 0, 1) := by decide +kernel
theorem d_x_firstLimitReached_1 : decode prog_1_method_21_code 1 = .ok (.istore 4, 2) := by decide +kernel
theorem d_x_firstLimitReached_3 : decode prog_1_method_21_code 3 = .ok (.iload 4, 2) := by decide +kernel
theorem d_x_firstLimitReached_5 : decode prog_1_method_21_code 5 = .ok (.aload_n 0, 1) := by decide +kernel
theorem d_x_firstLimitReached_6 : decode prog_1_method_21_code 6 = .ok (.getfield 19, 3) := by decide +kernel
theorem d_x_firstLimitReached_9 : decode prog_1_method_21_code 9 = .ok (.getfield 213, 3) := by decide +kernel
theorem d_x_firstLimitReached_12 : decode prog_1_method_21_code 12 = .ok (.if_icmp .ge 59, 3) := by decide +kernel
theorem d_x_firstLimitReached_15 : decode prog_1_method_21_code 15 = .ok (.aload_n 0, 1) := by decide +kernel
theorem d_x_firstLimitReached_16 : decode prog_1_method_21_code 16 = .ok (.getfield 19, 3) := by decide +kernel
theorem d_x_firstLimitReached_19 : decode prog_1_method_21_code 19 = .ok (.iload 4, 2) := by decide +kernel
theorem d_x_firstLimitReached_21 : decode prog_1_method_21_code 21 = .ok (.iload_n 1, 1) := by decide +kernel
theorem d_x_firstLimitReached_22 : decode prog_1_method_21_code 22 = .ok (.iload_n 2, 1) := by decide +kernel
theorem d_x_firstLimitReached_23 : decode prog_1_method_21_code 23 = .ok (.invokevirtual 216, 3) := by decide +kernel
theorem d_x_firstLimitReached_26 : decode prog_1_method_21_code 26 = .ok (.ifCond .eq 39, 3) := by decide +kernel
theorem d_x_firstLimitReached_29 : decode prog_1_method_21_code 29 = .ok (.aload_n 0, 1) := by decide +kernel
theorem d_x_firstLimitReached_30 : decode prog_1_method_21_code 30 = .ok (.getfield 33, 3) := by decide +kernel
theorem d_x_firstLimitReached_33 : decode prog_1_method_21_code 33 = .ok (.iload_n 1, 1) := by decide +kernel
theorem d_x_firstLimitReached_34 : decode prog_1_method_21_code 34 = .ok (.iload_n 2, 1) := by decide +kernel
theorem d_x_firstLimitReached_35 : decode prog_1_method_21_code 35 = .ok (.aload_n 0, 1) := by decide +kernel
theorem d_x_firstLimitReached_36 : decode prog_1_method_21_code 36 = .ok (.getfield 19, 3) := by decide +kernel
theorem d_x_firstLimitReached_39 : decode prog_1_method_21_code 39 = .ok (.getfield 219, 3) := by decide +kernel
theorem d_x_firstLimitReached_42 : decode prog_1_method_21_code 42 = .ok (.iload 4, 2) := by decide +kernel
theorem d_x_firstLimitReached_44 : decode prog_1_method_21_code 44 = .ok (.iaload, 1) := by decide +kernel
theorem d_x_firstLimitReached_45 : decode prog_1_method_21_code 45 = .ok (.iload_n 3, 1) := by decide +kernel
theorem d_x_firstLimitReached_46 : decode prog_1_method_21_code 46 = .ok (.invokevirtual 128, 3) := by decide +kernel
theorem d_x_firstLimitReached_49 : decode prog_1_method_21_code 49 = .ok (.aload_n 0, 1) := by decide +kernel
theorem d_x_firstLimitReached_50 : decode prog_1_method_21_code 50 = .ok (.getfield 19, 3) := by decide +kernel
theorem d_x_firstLimitReached_53 : decode prog_1_method_21_code 53 = .ok (.getfield 222, 3) := by decide +kernel
theorem d_x_firstLimitReached_56 : decode prog_1_method_21_code 56 = .ok (.iload 4, 2) := by decide +kernel
theorem d_x_firstLimitReached_58 : decode prog_1_method_21_code 58 = .ok (.iaload, 1) := by decide +kernel
theorem d_x_firstLimitReached_59 : decode prog_1_method_21_code 59 = .ok (.if_icmp .lt 6, 3) := by decide +kernel
theorem d_x_firstLimitReached_62 : decode prog_1_method_21_code 62 = .ok (.iload 4, 2) := by decide +kernel
theorem d_x_firstLimitReached_64 : decode prog_1_method_21_code 64 = .ok (.ireturn, 1) := by decide +kernel
theorem d_x_firstLimitReached_65 : decode prog_1_method_21_code 65 = .ok (.iinc 4 1, 3) := by decide +kernel
theorem d_x_firstLimitReached_68 : decode prog_1_method_21_code 68 = .ok (.goto (-65), 3) := by decide +kernel
theorem d_x_firstLimitReached_71 : decode prog_1_method_21_code 71 = .ok (.iconst (-1), 1) := by decide +kernel
theorem d_x_firstLimitReached_72 : decode prog_1_method_21_code 72 = .ok (.ireturn, 1) := by decide +kernel
theorem d_x_give_0 : decode prog_1_method_9_code 0 = .ok (.iload_n 1, 1) := by decide +kernel
theorem d_x_give_1 : decode prog_1_method_9_code 1 = .ok (.invokestatic 88, 3) := by decide +kernel
theorem d_x_give_4 : decode prog_1_method_9_code 4 = .ok (.ifCond .eq 13, 3) := by decide +kernel
theorem d_x_give_7 : decode prog_1_method_9_code 7 = .ok (.iload_n 2, 1) := by decide +kernel
theorem d_x_give_8 : decode prog_1_method_9_code 8 = .ok (.iconst 1, 1) := by decide +kernel
theorem d_x_give_9 : decode prog_1_method_9_code 9 = .ok (.bipush 9, 2) := by decide +kernel
theorem d_x_give_11 : decode prog_1_method_9_code 11 = .ok (.invokestatic 84, 3) := by decide +kernel
theorem d_x_give_14 : decode prog_1_method_9_code 14 = .ok (.ifCond .ne 6, 3) := by decide +kernel
theorem d_x_give_17 : decode prog_1_method_9_code 17 = .ok (.bipush (-2), 2) := by decide +kernel
theorem d_x_give_19 : decode prog_1_method_9_code 19 = .ok (.ireturn, 1) := by decide +kernel
theorem d_x_give_20 : decode prog_1_method_9_code 20 = .ok (.iconst 1, 1) := by decide +kernel
theorem d_x_give_21 : decode prog_1_method_9_code 21 = .ok (.iload_n 2, 1) := by decide +kernel
theorem d_x_give_22 : decode prog_1_method_9_code 22 = .ok (.ishl, 1) := by decide +kernel
theorem d_x_give_23 : decode prog_1_method_9_code 23 = .ok (.istore 4, 2) := by decide +kernel
theorem d_x_give_25 : decode prog_1_method_9_code 25 = .ok (.iload_n 3, 1) := by decide +kernel
theorem d_x_give_26 : decode prog_1_method_9_code 26 = .ok (.ifCond .eq 17, 3) := by decide +kernel
theorem d_x_give_29 : decode prog_1_method_9_code 29 = .ok (.aload_n 0, 1) := by decide +kernel
theorem d_x_give_30 : decode prog_1_method_9_code 30 = .ok (.getfield 41, 3) := by decide +kernel
theorem d_x_give_33 : decode prog_1_method_9_code 33 = .ok (.iload_n 1, 1) := by decide +kernel
theorem d_x_give_34 : decode prog_1_method_9_code 34 = .ok (.dup2, 1) := by decide +kernel
theorem d_x_give_35 : decode prog_1_method_9_code 35 = .ok (.iaload, 1) := by decide +kernel
theorem d_x_give_36 : decode prog_1_method_9_code 36 = .ok (.iload 4, 2) := by decide +kernel
theorem d_x_give_38 : decode prog_1_method_9_code 38 = .ok (.ior, 1) := by decide +kernel
theorem d_x_give_39 : decode prog_1_method_9_code 39 = .ok (.iastore, 1) := by decide +kernel
theorem d_x_give_40 : decode prog_1_method_9_code 40 = .ok (.goto 16, 3) := by decide +kernel
theorem d_x_give_43 : decode prog_1_method_9_code 43 = .ok (.aload_n 0, 1) := by decide +kernel
theorem d_x_give_44 : decode prog_1_method_9_code 44 = .ok (.getfield 41, 3) := by decide +kernel
theorem d_x_give_47 : decode prog_1_method_9_code 47 = .ok (.iload_n 1, 1) := by decide +kernel
theorem d_x_give_48 : decode prog_1_method_9_code 48 = .ok (.dup2, 1) := by decide +kernel
theorem d_x_give_49 : decode prog_1_method_9_code 49 = .ok (.iaload, 1) := by decide +kernel
theorem d_x_give_50 : decode prog_1_method_9_code 50 = .ok (.iload 4, 2) := by decide +kernel
theorem d_x_give_52 : decode prog_1_method_9_code 52 = .ok (.iconst (-1), 1) := by decide +kernel
theorem d_x_give_53 : decode prog_1_method_9_code 53 = .ok (.ixor, 1) := by decide +kernel
theorem d_x_give_54 : decode prog_1_method_9_code 54 = .ok (.iand, 1) := by decide +kernel
theorem d_x_give_55 : decode prog_1_method_9_code 55 = .ok (.iastore, 1) := by decide +kernel
theorem d_x_give_56 : decode prog_1_method_9_code 56 = .ok (.iconst 1, 1) := by decide +kernel
theorem d_x_give_57 : decode prog_1_method_9_code 57 = .ok (.ireturn, 1) := by decide +kernel
theorem d_x_goOnTo_0 : decode prog_1_method_23_code 0 = .ok (.iload_n 1, 1) := by decide +kernel
theorem d_x_goOnTo_1 : decode prog_1_method_23_code 1 = .ok (.aload_n 0, 1) := by decide +kernel
theorem d_x_goOnTo_2 : decode prog_1_method_23_code 2 = .ok (.getfield 44, 3) := by decide +kernel
theorem d_x_goOnTo_5 : decode prog_1_method_23_code 5 = .ok (.ldc 225, 2) := by decide +kernel
theorem d_x_goOnTo_7 : decode prog_1_method_23_code 7 = .ok (.invokestatic 84, 3) := by decide +kernel
theorem d_x_goOnTo_10 : decode prog_1_method_23_code 10 = .ok (.ifCond .ne 5, 3) := by decide +kernel
theorem d_x_goOnTo_13 : decode prog_1_method_23_code 13 = .ok (.iconst 0, 1) := by decide +kernel
theorem d_x_goOnTo_14 : decode prog_1_method_23_code 14 = .ok (.ireturn, 1) := by decide +kernel
theorem d_x_goOnTo_15 : decode prog_1_method_23_code 15 = .ok (.aload_n 0, 1) := by decide +kernel
theorem d_x_goOnTo_16 : decode prog_1_method_23_code 16 = .ok (.iload_n 1, 1) := by decide +kernel
theorem d_x_goOnTo_17 : decode prog_1_method_23_code 17 = .ok (.putfield 44, 3) := by decide +kernel
theorem d_x_goOnTo_20 : decode prog_1_method_23_code 20 = .ok (.iconst 1, 1) := by decide +kernel
theorem d_x_goOnTo_21 : decode prog_1_method_23_code 21 = .ok (.ireturn, 1) := by decide +kernel
theorem d_x_isBetween_0 : decode prog_1_method_30_code 0 = .ok (.iload_n 0, 1) := by decide +kernel
theorem d_x_isBetween_1 : decode prog_1_method_30_code 1 = .ok (.iload_n 1, 1) := by decide +kernel
theorem d_x_isBetween_2 : decode prog_1_method_30_code 2 = .ok (.if_icmp .lt 12, 3) := by decide +kernel
theorem d_x_isBetween_5 : decode prog_1_method_30_code 5 = .ok (.iload_n 0, 1) := by decide +kernel
theorem d_x_isBetween_6 : decode prog_1_method_30_code 6 = .ok (.iload_n 2, 1) := by decide +kernel
theorem d_x_isBetween_7 : decode prog_1_method_30_code 7 = .ok (.if_icmp .gt 7, 3) := by decide +kernel
theorem d_x_isBetween_10 : decode prog_1_method_30_code 10 = .ok (.iconst 1, 1) := by decide +kernel
theorem d_x_isBetween_11 : decode prog_1_method_30_code 11 = .ok (.goto 4, 3) := by decide +kernel
theorem d_x_isBetween_14 : decode prog_1_method_30_code 14 = .ok (.iconst 0, 1) := by decide +kernel
theorem d_x_isBetween_15 : decode prog_1_method_30_code 15 = .ok (.ireturn, 1) := by decide +kernel
theorem d_x_isCopies_0 : decode prog_1_method_29_code 0 = .ok (.iload_n 0, 1) := by decide +kernel
theorem d_x_isCopies_1 : decode prog_1_method_29_code 1 = .ok (.iconst 0, 1) := by decide +kernel
theorem d_x_isCopies_2 : decode prog_1_method_29_code 2 = .ok (.sipush 1000, 3) := by decide +kernel
theorem d_x_isCopies_5 : decode prog_1_method_29_code 5 = .ok (.invokestatic 84, 3) := by decide +kernel
theorem d_x_isCopies_8 : decode prog_1_method_29_code 8 = .ok (.ireturn, 1) := by decide +kernel
theorem d_x_isDays_0 : decode prog_1_method_28_code 0 = .ok (.iload_n 0, 1) := by decide +kernel
theorem d_x_isDays_1 : decode prog_1_method_28_code 1 = .ok (.iconst 1, 1) := by decide +kernel
theorem d_x_isDays_2 : decode prog_1_method_28_code 2 = .ok (.sipush 5000, 3) := by decide +kernel
theorem d_x_isDays_5 : decode prog_1_method_28_code 5 = .ok (.invokestatic 84, 3) := by decide +kernel
theorem d_x_isDays_8 : decode prog_1_method_28_code 8 = .ok (.ireturn, 1) := by decide +kernel
theorem d_x_isKind_0 : decode prog_1_method_27_code 0 = .ok (.iload_n 0, 1) := by decide +kernel
theorem d_x_isKind_1 : decode prog_1_method_27_code 1 = .ok (.iconst 0, 1) := by decide +kernel
theorem d_x_isKind_2 : decode prog_1_method_27_code 2 = .ok (.iconst 1, 1) := by decide +kernel
theorem d_x_isKind_3 : decode prog_1_method_27_code 3 = .ok (.invokestatic 84, 3) := by decide +kernel
theorem d_x_isKind_6 : decode prog_1_method_27_code 6 = .ok (.ireturn, 1) := by decide +kernel
theorem d_x_isPerson_0 : decode prog_1_method_26_code 0 = .ok (.iload_n 0, 1) := by decide +kernel
theorem d_x_isPerson_1 : decode prog_1_method_26_code 1 = .ok (.iconst 0, 1) := by decide +kernel
theorem d_x_isPerson_2 : decode prog_1_method_26_code 2 = .ok (.bipush 99, 2) := by decide +kernel
theorem d_x_isPerson_4 : decode prog_1_method_26_code 4 = .ok (.invokestatic 84, 3) := by decide +kernel
theorem d_x_isPerson_7 : decode prog_1_method_26_code 7 = .ok (.ireturn, 1) := by decide +kernel
theorem d_x_isPublisher_0 : decode prog_1_method_25_code 0 = .ok (.iload_n 0, 1) := by decide +kernel
theorem d_x_isPublisher_1 : decode prog_1_method_25_code 1 = .ok (.iconst 0, 1) := by decide +kernel
theorem d_x_isPublisher_2 : decode prog_1_method_25_code 2 = .ok (.bipush 99, 2) := by decide +kernel
theorem d_x_isPublisher_4 : decode prog_1_method_25_code 4 = .ok (.invokestatic 84, 3) := by decide +kernel
theorem d_x_isPublisher_7 : decode prog_1_method_25_code 7 = .ok (.ireturn, 1) := by decide +kernel
theorem d_x_isTime_0 : decode prog_1_method_24_code 0 = .ok (.iload_n 0, 1) := by decide +kernel
theorem d_x_isTime_1 : decode prog_1_method_24_code 1 = .ok (.iconst 0, 1) := by decide +kernel
theorem d_x_isTime_2 : decode prog_1_method_24_code 2 = .ok (.ldc 225, 2) := by decide +kernel
theorem d_x_isTime_4 : decode prog_1_method_24_code 4 = .ok (.invokestatic 84, 3) := by decide +kernel
theorem d_x_isTime_7 : decode prog_1_method_24_code 7 = .ok (.ireturn, 1) := by decide +kernel
theorem d_x_left_0 : decode prog_1_method_16_code 0 = .ok (.aload_n 0, 1) := by decide +kernel
theorem d_x_left_1 : decode prog_1_method_16_code 1 = .ok (.getfield 26, 3) := by decide +kernel
theorem d_x_left_4 : decode prog_1_method_16_code 4 = .ok (.iload_n 1, 1) := by decide +kernel
theorem d_x_left_5 : decode prog_1_method_16_code 5 = .ok (.invokevirtual 170, 3) := by decide +kernel
theorem d_x_left_8 : decode prog_1_method_16_code 8 = .ok (.ifCond .eq 15, 3) := by decide +kernel
theorem d_x_left_11 : decode prog_1_method_16_code 11 = .ok (.aload_n 0, 1) := by decide +kernel
theorem d_x_left_12 : decode prog_1_method_16_code 12 = .ok (.getfield 26, 3) := by decide +kernel
theorem d_x_left_15 : decode prog_1_method_16_code 15 = .ok (.getfield 171, 3) := by decide +kernel
theorem d_x_left_18 : decode prog_1_method_16_code 18 = .ok (.iload_n 1, 1) := by decide +kernel
theorem d_x_left_19 : decode prog_1_method_16_code 19 = .ok (.iaload, 1) := by decide +kernel
theorem d_x_left_20 : decode prog_1_method_16_code 20 = .ok (.goto 4, 3) := by decide +kernel
theorem d_x_left_23 : decode prog_1_method_16_code 23 = .ok (.iconst (-1), 1) := by decide +kernel
theorem d_x_left_24 : decode prog_1_method_16_code 24 = .ok (.ireturn, 1) := by decide +kernel
theorem d_x_licence_0 : decode prog_1_method_5_code 0 = .ok (.aload_n 0, 1) := by decide +kernel
theorem d_x_licence_1 : decode prog_1_method_5_code 1 = .ok (.getfield 12, 3) := by decide +kernel
theorem d_x_licence_4 : decode prog_1_method_5_code 4 = .ok (.iload_n 1, 1) := by decide +kernel
theorem d_x_licence_5 : decode prog_1_method_5_code 5 = .ok (.invokevirtual 59, 3) := by decide +kernel
theorem d_x_licence_8 : decode prog_1_method_5_code 8 = .ok (.ifCond .ne 5, 3) := by decide +kernel
theorem d_x_licence_11 : decode prog_1_method_5_code 11 = .ok (.iconst (-1), 1) := by decide +kernel
theorem d_x_licence_12 : decode prog_1_method_5_code 12 = .ok (.ireturn, 1) := by decide +kernel
theorem d_x_licence_13 : decode prog_1_method_5_code 13 = .ok (.iload_n 2, 1) := by decide +kernel
theorem d_x_licence_14 : decode prog_1_method_5_code 14 = .ok (.invokestatic 66, 3) := by decide +kernel
theorem d_x_licence_17 : decode prog_1_method_5_code 17 = .ok (.ifCond .eq 33, 3) := by decide +kernel
theorem d_x_licence_20 : decode prog_1_method_5_code 20 = .ok (.iload_n 3, 1) := by decide +kernel
theorem d_x_licence_21 : decode prog_1_method_5_code 21 = .ok (.invokestatic 72, 3) := by decide +kernel
theorem d_x_licence_24 : decode prog_1_method_5_code 24 = .ok (.ifCond .eq 26, 3) := by decide +kernel
theorem d_x_licence_27 : decode prog_1_method_5_code 27 = .ok (.iload 4, 2) := by decide +kernel
theorem d_x_licence_29 : decode prog_1_method_5_code 29 = .ok (.invokestatic 78, 3) := by decide +kernel
theorem d_x_licence_32 : decode prog_1_method_5_code 32 = .ok (.ifCond .eq 18, 3) := by decide +kernel
theorem d_x_licence_35 : decode prog_1_method_5_code 35 = .ok (.iload 5, 2) := by decide +kernel
theorem d_x_licence_37 : decode prog_1_method_5_code 37 = .ok (.invokestatic 78, 3) := by decide +kernel
theorem d_x_licence_40 : decode prog_1_method_5_code 40 = .ok (.ifCond .eq 10, 3) := by decide +kernel
theorem d_x_licence_43 : decode prog_1_method_5_code 43 = .ok (.iload 4, 2) := by decide +kernel
theorem d_x_licence_45 : decode prog_1_method_5_code 45 = .ok (.iload 5, 2) := by decide +kernel
theorem d_x_licence_47 : decode prog_1_method_5_code 47 = .ok (.if_icmp .le 6, 3) := by decide +kernel
theorem d_x_licence_50 : decode prog_1_method_5_code 50 = .ok (.bipush (-2), 2) := by decide +kernel
theorem d_x_licence_52 : decode prog_1_method_5_code 52 = .ok (.ireturn, 1) := by decide +kernel
theorem d_x_licence_53 : decode prog_1_method_5_code 53 = .ok (.aload_n 0, 1) := by decide +kernel
theorem d_x_licence_54 : decode prog_1_method_5_code 54 = .ok (.getfield 26, 3) := by decide +kernel
theorem d_x_licence_57 : decode prog_1_method_5_code 57 = .ok (.iload_n 1, 1) := by decide +kernel
theorem d_x_licence_58 : decode prog_1_method_5_code 58 = .ok (.iload_n 2, 1) := by decide +kernel
theorem d_x_licence_59 : decode prog_1_method_5_code 59 = .ok (.iload_n 3, 1) := by decide +kernel
theorem d_x_licence_60 : decode prog_1_method_5_code 60 = .ok (.iload 4, 2) := by decide +kernel
theorem d_x_licence_62 : decode prog_1_method_5_code 62 = .ok (.iload 5, 2) := by decide +kernel
theorem d_x_licence_64 : decode prog_1_method_5_code 64 = .ok (.invokevirtual 81, 3) := by decide +kernel
theorem d_x_licence_67 : decode prog_1_method_5_code 67 = .ok (.ireturn, 1) := by decide +kernel
theorem d_x_limit_0 : decode prog_1_method_4_code 0 = .ok (.aload_n 0, 1) := by decide +kernel
theorem d_x_limit_1 : decode prog_1_method_4_code 1 = .ok (.getfield 12, 3) := by decide +kernel
theorem d_x_limit_4 : decode prog_1_method_4_code 4 = .ok (.iload_n 1, 1) := by decide +kernel
theorem d_x_limit_5 : decode prog_1_method_4_code 5 = .ok (.invokevirtual 59, 3) := by decide +kernel
theorem d_x_limit_8 : decode prog_1_method_4_code 8 = .ok (.ifCond .ne 5, 3) := by decide +kernel
theorem d_x_limit_11 : decode prog_1_method_4_code 11 = .ok (.iconst (-1), 1) := by decide +kernel
theorem d_x_limit_12 : decode prog_1_method_4_code 12 = .ok (.ireturn, 1) := by decide +kernel
theorem d_x_limit_13 : decode prog_1_method_4_code 13 = .ok (.iload_n 2, 1) := by decide +kernel
theorem d_x_limit_14 : decode prog_1_method_4_code 14 = .ok (.invokestatic 66, 3) := by decide +kernel
theorem d_x_limit_17 : decode prog_1_method_4_code 17 = .ok (.ifCond .eq 18, 3) := by decide +kernel
theorem d_x_limit_20 : decode prog_1_method_4_code 20 = .ok (.iload_n 3, 1) := by decide +kernel
theorem d_x_limit_21 : decode prog_1_method_4_code 21 = .ok (.invokestatic 69, 3) := by decide +kernel
theorem d_x_limit_24 : decode prog_1_method_4_code 24 = .ok (.ifCond .eq 11, 3) := by decide +kernel
theorem d_x_limit_27 : decode prog_1_method_4_code 27 = .ok (.iload 4, 2) := by decide +kernel
theorem d_x_limit_29 : decode prog_1_method_4_code 29 = .ok (.invokestatic 72, 3) := by decide +kernel
theorem d_x_limit_32 : decode prog_1_method_4_code 32 = .ok (.ifCond .ne 6, 3) := by decide +kernel
theorem d_x_limit_35 : decode prog_1_method_4_code 35 = .ok (.bipush (-2), 2) := by decide +kernel
theorem d_x_limit_37 : decode prog_1_method_4_code 37 = .ok (.ireturn, 1) := by decide +kernel
theorem d_x_limit_38 : decode prog_1_method_4_code 38 = .ok (.aload_n 0, 1) := by decide +kernel
theorem d_x_limit_39 : decode prog_1_method_4_code 39 = .ok (.getfield 19, 3) := by decide +kernel
theorem d_x_limit_42 : decode prog_1_method_4_code 42 = .ok (.iload_n 1, 1) := by decide +kernel
theorem d_x_limit_43 : decode prog_1_method_4_code 43 = .ok (.iload_n 2, 1) := by decide +kernel
theorem d_x_limit_44 : decode prog_1_method_4_code 44 = .ok (.iload_n 3, 1) := by decide +kernel
theorem d_x_limit_45 : decode prog_1_method_4_code 45 = .ok (.iload 4, 2) := by decide +kernel
theorem d_x_limit_47 : decode prog_1_method_4_code 47 = .ok (.invokevirtual 75, 3) := by decide +kernel
theorem d_x_limit_50 : decode prog_1_method_4_code 50 = .ok (.ireturn, 1) := by decide +kernel
theorem d_x_mayWaive_0 : decode prog_1_method_22_code 0 = .ok (.aload_n 0, 1) := by decide +kernel
theorem d_x_mayWaive_1 : decode prog_1_method_22_code 1 = .ok (.getfield 12, 3) := by decide +kernel
theorem d_x_mayWaive_4 : decode prog_1_method_22_code 4 = .ok (.getfield 102, 3) := by decide +kernel
theorem d_x_mayWaive_7 : decode prog_1_method_22_code 7 = .ok (.iload_n 1, 1) := by decide +kernel
theorem d_x_mayWaive_8 : decode prog_1_method_22_code 8 = .ok (.iaload, 1) := by decide +kernel
theorem d_x_mayWaive_9 : decode prog_1_method_22_code 9 = .ok (.istore_n 3, 1) := by decide +kernel
theorem d_x_mayWaive_10 : decode prog_1_method_22_code 10 = .ok (.iload_n 3, 1) := by decide +kernel
theorem d_x_mayWaive_11 : decode prog_1_method_22_code 11 = .ok (.ifCond .eq 20, 3) := by decide +kernel
theorem d_x_mayWaive_14 : decode prog_1_method_22_code 14 = .ok (.aload_n 0, 1) := by decide +kernel
theorem d_x_mayWaive_15 : decode prog_1_method_22_code 15 = .ok (.getfield 41, 3) := by decide +kernel
theorem d_x_mayWaive_18 : decode prog_1_method_22_code 18 = .ok (.iload_n 2, 1) := by decide +kernel
theorem d_x_mayWaive_19 : decode prog_1_method_22_code 19 = .ok (.iaload, 1) := by decide +kernel
theorem d_x_mayWaive_20 : decode prog_1_method_22_code 20 = .ok (.iconst 1, 1) := by decide +kernel
theorem d_x_mayWaive_21 : decode prog_1_method_22_code 21 = .ok (.iload_n 3, 1) := by decide +kernel
theorem d_x_mayWaive_22 : decode prog_1_method_22_code 22 = .ok (.ishl, 1) := by decide +kernel
theorem d_x_mayWaive_23 : decode prog_1_method_22_code 23 = .ok (.iand, 1) := by decide +kernel
theorem d_x_mayWaive_24 : decode prog_1_method_22_code 24 = .ok (.ifCond .eq 7, 3) := by decide +kernel
theorem d_x_mayWaive_27 : decode prog_1_method_22_code 27 = .ok (.iconst 1, 1) := by decide +kernel
theorem d_x_mayWaive_28 : decode prog_1_method_22_code 28 = .ok (.goto 4, 3) := by decide +kernel
theorem d_x_mayWaive_31 : decode prog_1_method_22_code 31 = .ok (.iconst 0, 1) := by decide +kernel
theorem d_x_mayWaive_32 : decode prog_1_method_22_code 32 = .ok (.ireturn, 1) := by decide +kernel
theorem d_x_open_0 : decode prog_1_method_3_code 0 = .ok (.aload_n 0, 1) := by decide +kernel
theorem d_x_open_1 : decode prog_1_method_3_code 1 = .ok (.getfield 12, 3) := by decide +kernel
theorem d_x_open_4 : decode prog_1_method_3_code 4 = .ok (.iload_n 1, 1) := by decide +kernel
theorem d_x_open_5 : decode prog_1_method_3_code 5 = .ok (.invokevirtual 59, 3) := by decide +kernel
theorem d_x_open_8 : decode prog_1_method_3_code 8 = .ok (.ifCond .ne 5, 3) := by decide +kernel
theorem d_x_open_11 : decode prog_1_method_3_code 11 = .ok (.iconst (-1), 1) := by decide +kernel
theorem d_x_open_12 : decode prog_1_method_3_code 12 = .ok (.ireturn, 1) := by decide +kernel
theorem d_x_open_13 : decode prog_1_method_3_code 13 = .ok (.aload_n 0, 1) := by decide +kernel
theorem d_x_open_14 : decode prog_1_method_3_code 14 = .ok (.getfield 12, 3) := by decide +kernel
theorem d_x_open_17 : decode prog_1_method_3_code 17 = .ok (.getfield 62, 3) := by decide +kernel
theorem d_x_open_20 : decode prog_1_method_3_code 20 = .ok (.iload_n 1, 1) := by decide +kernel
theorem d_x_open_21 : decode prog_1_method_3_code 21 = .ok (.iload_n 2, 1) := by decide +kernel
theorem d_x_open_22 : decode prog_1_method_3_code 22 = .ok (.bastore, 1) := by decide +kernel
theorem d_x_open_23 : decode prog_1_method_3_code 23 = .ok (.iconst 1, 1) := by decide +kernel
theorem d_x_open_24 : decode prog_1_method_3_code 24 = .ok (.ireturn, 1) := by decide +kernel
theorem d_x_past_0 : decode prog_1_method_18_code 0 = .ok (.aload_n 0, 1) := by decide +kernel
theorem d_x_past_1 : decode prog_1_method_18_code 1 = .ok (.getfield 33, 3) := by decide +kernel
theorem d_x_past_4 : decode prog_1_method_18_code 4 = .ok (.iload_n 1, 1) := by decide +kernel
theorem d_x_past_5 : decode prog_1_method_18_code 5 = .ok (.iload_n 2, 1) := by decide +kernel
theorem d_x_past_6 : decode prog_1_method_18_code 6 = .ok (.invokevirtual 186, 3) := by decide +kernel
theorem d_x_past_9 : decode prog_1_method_18_code 9 = .ok (.istore_n 3, 1) := by decide +kernel
theorem d_x_past_10 : decode prog_1_method_18_code 10 = .ok (.iload_n 3, 1) := by decide +kernel
theorem d_x_past_11 : decode prog_1_method_18_code 11 = .ok (.iconst (-1), 1) := by decide +kernel
theorem d_x_past_12 : decode prog_1_method_18_code 12 = .ok (.if_icmp .ne 13, 3) := by decide +kernel
theorem d_x_past_15 : decode prog_1_method_18_code 15 = .ok (.new 131, 3) := by decide +kernel
theorem d_x_past_18 : decode prog_1_method_18_code 18 = .ok (.dup, 1) := by decide +kernel
theorem d_x_past_19 : decode prog_1_method_18_code 19 = .ok (.ldc 190, 2) := by decide +kernel
theorem d_x_past_21 : decode prog_1_method_18_code 21 = .ok (.invokespecial 135, 3) := by decide +kernel
theorem d_x_past_24 : decode prog_1_method_18_code 24 = .ok (.athrow, 1) := by decide +kernel
theorem d_x_past_25 : decode prog_1_method_18_code 25 = .ok (.iload_n 3, 1) := by decide +kernel
theorem d_x_past_26 : decode prog_1_method_18_code 26 = .ok (.ireturn, 1) := by decide +kernel
theorem d_x_renew_0 : decode prog_1_method_12_code 0 = .ok (.aload_n 0, 1) := by decide +kernel
theorem d_x_renew_1 : decode prog_1_method_12_code 1 = .ok (.getfield 33, 3) := by decide +kernel
theorem d_x_renew_4 : decode prog_1_method_12_code 4 = .ok (.iload_n 1, 1) := by decide +kernel
theorem d_x_renew_5 : decode prog_1_method_12_code 5 = .ok (.invokevirtual 112, 3) := by decide +kernel
theorem d_x_renew_8 : decode prog_1_method_12_code 8 = .ok (.ifCond .ne 5, 3) := by decide +kernel
theorem d_x_renew_11 : decode prog_1_method_12_code 11 = .ok (.iconst (-1), 1) := by decide +kernel
theorem d_x_renew_12 : decode prog_1_method_12_code 12 = .ok (.ireturn, 1) := by decide +kernel
theorem d_x_renew_13 : decode prog_1_method_12_code 13 = .ok (.aload_n 0, 1) := by decide +kernel
theorem d_x_renew_14 : decode prog_1_method_12_code 14 = .ok (.iload_n 2, 1) := by decide +kernel
theorem d_x_renew_15 : decode prog_1_method_12_code 15 = .ok (.invokevirtual 91, 3) := by decide +kernel
theorem d_x_renew_18 : decode prog_1_method_12_code 18 = .ok (.ifCond .ne 6, 3) := by decide +kernel
theorem d_x_renew_21 : decode prog_1_method_12_code 21 = .ok (.bipush (-2), 2) := by decide +kernel
theorem d_x_renew_23 : decode prog_1_method_12_code 23 = .ok (.ireturn, 1) := by decide +kernel
theorem d_x_renew_24 : decode prog_1_method_12_code 24 = .ok (.aload_n 0, 1) := by decide +kernel
theorem d_x_renew_25 : decode prog_1_method_12_code 25 = .ok (.getfield 33, 3) := by decide +kernel
theorem d_x_renew_28 : decode prog_1_method_12_code 28 = .ok (.iload_n 1, 1) := by decide +kernel
theorem d_x_renew_29 : decode prog_1_method_12_code 29 = .ok (.iload_n 2, 1) := by decide +kernel
theorem d_x_renew_30 : decode prog_1_method_12_code 30 = .ok (.invokevirtual 113, 3) := by decide +kernel
theorem d_x_renew_33 : decode prog_1_method_12_code 33 = .ok (.ifCond .ne 6, 3) := by decide +kernel
theorem d_x_renew_36 : decode prog_1_method_12_code 36 = .ok (.bipush (-3), 2) := by decide +kernel
theorem d_x_renew_38 : decode prog_1_method_12_code 38 = .ok (.ireturn, 1) := by decide +kernel
theorem d_x_renew_39 : decode prog_1_method_12_code 39 = .ok (.aload_n 0, 1) := by decide +kernel
theorem d_x_renew_40 : decode prog_1_method_12_code 40 = .ok (.getfield 33, 3) := by decide +kernel
theorem d_x_renew_43 : decode prog_1_method_12_code 43 = .ok (.iload_n 1, 1) := by decide +kernel
theorem d_x_renew_44 : decode prog_1_method_12_code 44 = .ok (.invokevirtual 116, 3) := by decide +kernel
theorem d_x_renew_47 : decode prog_1_method_12_code 47 = .ok (.ireturn, 1) := by decide +kernel
theorem d_x_request_0 : decode prog_1_method_15_code 0 = .ok (.aload_n 0, 1) := by decide +kernel
theorem d_x_request_1 : decode prog_1_method_15_code 1 = .ok (.getfield 33, 3) := by decide +kernel
theorem d_x_request_4 : decode prog_1_method_15_code 4 = .ok (.iload_n 1, 1) := by decide +kernel
theorem d_x_request_5 : decode prog_1_method_15_code 5 = .ok (.invokevirtual 112, 3) := by decide +kernel
theorem d_x_request_8 : decode prog_1_method_15_code 8 = .ok (.ifCond .ne 13, 3) := by decide +kernel
theorem d_x_request_11 : decode prog_1_method_15_code 11 = .ok (.new 131, 3) := by decide +kernel
theorem d_x_request_14 : decode prog_1_method_15_code 14 = .ok (.dup, 1) := by decide +kernel
theorem d_x_request_15 : decode prog_1_method_15_code 15 = .ok (.ldc 133, 2) := by decide +kernel
theorem d_x_request_17 : decode prog_1_method_15_code 17 = .ok (.invokespecial 135, 3) := by decide +kernel
theorem d_x_request_20 : decode prog_1_method_15_code 20 = .ok (.athrow, 1) := by decide +kernel
theorem d_x_request_21 : decode prog_1_method_15_code 21 = .ok (.iload_n 2, 1) := by decide +kernel
theorem d_x_request_22 : decode prog_1_method_15_code 22 = .ok (.tableswitch 168 0 10 #[58, 68, 78, 88, 98, 108, 118, 128, 138, 148, 158], 58) := by decide +kernel
theorem d_x_request_80 : decode prog_1_method_15_code 80 = .ok (.aload_n 0, 1) := by decide +kernel
theorem d_x_request_81 : decode prog_1_method_15_code 81 = .ok (.getfield 33, 3) := by decide +kernel
theorem d_x_request_84 : decode prog_1_method_15_code 84 = .ok (.getfield 138, 3) := by decide +kernel
theorem d_x_request_87 : decode prog_1_method_15_code 87 = .ok (.iload_n 1, 1) := by decide +kernel
theorem d_x_request_88 : decode prog_1_method_15_code 88 = .ok (.iaload, 1) := by decide +kernel
theorem d_x_request_89 : decode prog_1_method_15_code 89 = .ok (.ireturn, 1) := by decide +kernel
theorem d_x_request_90 : decode prog_1_method_15_code 90 = .ok (.aload_n 0, 1) := by decide +kernel
theorem d_x_request_91 : decode prog_1_method_15_code 91 = .ok (.getfield 33, 3) := by decide +kernel
theorem d_x_request_94 : decode prog_1_method_15_code 94 = .ok (.getfield 141, 3) := by decide +kernel
theorem d_x_request_97 : decode prog_1_method_15_code 97 = .ok (.iload_n 1, 1) := by decide +kernel
theorem d_x_request_98 : decode prog_1_method_15_code 98 = .ok (.iaload, 1) := by decide +kernel
theorem d_x_request_99 : decode prog_1_method_15_code 99 = .ok (.ireturn, 1) := by decide +kernel
theorem d_x_request_100 : decode prog_1_method_15_code 100 = .ok (.aload_n 0, 1) := by decide +kernel
theorem d_x_request_101 : decode prog_1_method_15_code 101 = .ok (.getfield 33, 3) := by decide +kernel
theorem d_x_request_104 : decode prog_1_method_15_code 104 = .ok (.getfield 144, 3) := by decide +kernel
theorem d_x_request_107 : decode prog_1_method_15_code 107 = .ok (.iload_n 1, 1) := by decide +kernel
theorem d_x_request_108 : decode prog_1_method_15_code 108 = .ok (.iaload, 1) := by decide +kernel
theorem d_x_request_109 : decode prog_1_method_15_code 109 = .ok (.ireturn, 1) := by decide +kernel
theorem d_x_request_110 : decode prog_1_method_15_code 110 = .ok (.aload_n 0, 1) := by decide +kernel
theorem d_x_request_111 : decode prog_1_method_15_code 111 = .ok (.getfield 33, 3) := by decide +kernel
theorem d_x_request_114 : decode prog_1_method_15_code 114 = .ok (.getfield 147, 3) := by decide +kernel
theorem d_x_request_117 : decode prog_1_method_15_code 117 = .ok (.iload_n 1, 1) := by decide +kernel
theorem d_x_request_118 : decode prog_1_method_15_code 118 = .ok (.iaload, 1) := by decide +kernel
theorem d_x_request_119 : decode prog_1_method_15_code 119 = .ok (.ireturn, 1) := by decide +kernel
theorem d_x_request_120 : decode prog_1_method_15_code 120 = .ok (.aload_n 0, 1) := by decide +kernel
theorem d_x_request_121 : decode prog_1_method_15_code 121 = .ok (.getfield 33, 3) := by decide +kernel
theorem d_x_request_124 : decode prog_1_method_15_code 124 = .ok (.getfield 150, 3) := by decide +kernel
theorem d_x_request_127 : decode prog_1_method_15_code 127 = .ok (.iload_n 1, 1) := by decide +kernel
theorem d_x_request_128 : decode prog_1_method_15_code 128 = .ok (.iaload, 1) := by decide +kernel
theorem d_x_request_129 : decode prog_1_method_15_code 129 = .ok (.ireturn, 1) := by decide +kernel
theorem d_x_request_130 : decode prog_1_method_15_code 130 = .ok (.aload_n 0, 1) := by decide +kernel
theorem d_x_request_131 : decode prog_1_method_15_code 131 = .ok (.getfield 33, 3) := by decide +kernel
theorem d_x_request_134 : decode prog_1_method_15_code 134 = .ok (.getfield 153, 3) := by decide +kernel
theorem d_x_request_137 : decode prog_1_method_15_code 137 = .ok (.iload_n 1, 1) := by decide +kernel
theorem d_x_request_138 : decode prog_1_method_15_code 138 = .ok (.iaload, 1) := by decide +kernel
theorem d_x_request_139 : decode prog_1_method_15_code 139 = .ok (.ireturn, 1) := by decide +kernel
theorem d_x_request_140 : decode prog_1_method_15_code 140 = .ok (.aload_n 0, 1) := by decide +kernel
theorem d_x_request_141 : decode prog_1_method_15_code 141 = .ok (.getfield 33, 3) := by decide +kernel
theorem d_x_request_144 : decode prog_1_method_15_code 144 = .ok (.getfield 156, 3) := by decide +kernel
theorem d_x_request_147 : decode prog_1_method_15_code 147 = .ok (.iload_n 1, 1) := by decide +kernel
theorem d_x_request_148 : decode prog_1_method_15_code 148 = .ok (.iaload, 1) := by decide +kernel
theorem d_x_request_149 : decode prog_1_method_15_code 149 = .ok (.ireturn, 1) := by decide +kernel
theorem d_x_request_150 : decode prog_1_method_15_code 150 = .ok (.aload_n 0, 1) := by decide +kernel
theorem d_x_request_151 : decode prog_1_method_15_code 151 = .ok (.getfield 33, 3) := by decide +kernel
theorem d_x_request_154 : decode prog_1_method_15_code 154 = .ok (.getfield 159, 3) := by decide +kernel
theorem d_x_request_157 : decode prog_1_method_15_code 157 = .ok (.iload_n 1, 1) := by decide +kernel
theorem d_x_request_158 : decode prog_1_method_15_code 158 = .ok (.iaload, 1) := by decide +kernel
theorem d_x_request_159 : decode prog_1_method_15_code 159 = .ok (.ireturn, 1) := by decide +kernel
theorem d_x_request_160 : decode prog_1_method_15_code 160 = .ok (.aload_n 0, 1) := by decide +kernel
theorem d_x_request_161 : decode prog_1_method_15_code 161 = .ok (.getfield 33, 3) := by decide +kernel
theorem d_x_request_164 : decode prog_1_method_15_code 164 = .ok (.getfield 162, 3) := by decide +kernel
theorem d_x_request_167 : decode prog_1_method_15_code 167 = .ok (.iload_n 1, 1) := by decide +kernel
theorem d_x_request_168 : decode prog_1_method_15_code 168 = .ok (.iaload, 1) := by decide +kernel
theorem d_x_request_169 : decode prog_1_method_15_code 169 = .ok (.ireturn, 1) := by decide +kernel
theorem d_x_request_170 : decode prog_1_method_15_code 170 = .ok (.aload_n 0, 1) := by decide +kernel
theorem d_x_request_171 : decode prog_1_method_15_code 171 = .ok (.getfield 33, 3) := by decide +kernel
theorem d_x_request_174 : decode prog_1_method_15_code 174 = .ok (.getfield 165, 3) := by decide +kernel
theorem d_x_request_177 : decode prog_1_method_15_code 177 = .ok (.iload_n 1, 1) := by decide +kernel
theorem d_x_request_178 : decode prog_1_method_15_code 178 = .ok (.iaload, 1) := by decide +kernel
theorem d_x_request_179 : decode prog_1_method_15_code 179 = .ok (.ireturn, 1) := by decide +kernel
theorem d_x_request_180 : decode prog_1_method_15_code 180 = .ok (.aload_n 0, 1) := by decide +kernel
theorem d_x_request_181 : decode prog_1_method_15_code 181 = .ok (.getfield 33, 3) := by decide +kernel
theorem d_x_request_184 : decode prog_1_method_15_code 184 = .ok (.getfield 122, 3) := by decide +kernel
theorem d_x_request_187 : decode prog_1_method_15_code 187 = .ok (.iload_n 1, 1) := by decide +kernel
theorem d_x_request_188 : decode prog_1_method_15_code 188 = .ok (.iaload, 1) := by decide +kernel
theorem d_x_request_189 : decode prog_1_method_15_code 189 = .ok (.ireturn, 1) := by decide +kernel
theorem d_x_request_190 : decode prog_1_method_15_code 190 = .ok (.new 131, 3) := by decide +kernel
theorem d_x_request_193 : decode prog_1_method_15_code 193 = .ok (.dup, 1) := by decide +kernel
theorem d_x_request_194 : decode prog_1_method_15_code 194 = .ok (.ldc 168, 2) := by decide +kernel
theorem d_x_request_196 : decode prog_1_method_15_code 196 = .ok (.invokespecial 135, 3) := by decide +kernel
theorem d_x_request_199 : decode prog_1_method_15_code 199 = .ok (.athrow, 1) := by decide +kernel
theorem d_x_right_0 : decode prog_1_method_10_code 0 = .ok (.aload_n 0, 1) := by decide +kernel
theorem d_x_right_1 : decode prog_1_method_10_code 1 = .ok (.getfield 12, 3) := by decide +kernel
theorem d_x_right_4 : decode prog_1_method_10_code 4 = .ok (.iload_n 1, 1) := by decide +kernel
theorem d_x_right_5 : decode prog_1_method_10_code 5 = .ok (.invokevirtual 59, 3) := by decide +kernel
theorem d_x_right_8 : decode prog_1_method_10_code 8 = .ok (.ifCond .ne 5, 3) := by decide +kernel
theorem d_x_right_11 : decode prog_1_method_10_code 11 = .ok (.iconst (-1), 1) := by decide +kernel
theorem d_x_right_12 : decode prog_1_method_10_code 12 = .ok (.ireturn, 1) := by decide +kernel
theorem d_x_right_13 : decode prog_1_method_10_code 13 = .ok (.iload_n 2, 1) := by decide +kernel
theorem d_x_right_14 : decode prog_1_method_10_code 14 = .ok (.iconst 0, 1) := by decide +kernel
theorem d_x_right_15 : decode prog_1_method_10_code 15 = .ok (.bipush 9, 2) := by decide +kernel
theorem d_x_right_17 : decode prog_1_method_10_code 17 = .ok (.invokestatic 84, 3) := by decide +kernel
theorem d_x_right_20 : decode prog_1_method_10_code 20 = .ok (.ifCond .ne 6, 3) := by decide +kernel
theorem d_x_right_23 : decode prog_1_method_10_code 23 = .ok (.bipush (-2), 2) := by decide +kernel
theorem d_x_right_25 : decode prog_1_method_10_code 25 = .ok (.ireturn, 1) := by decide +kernel
theorem d_x_right_26 : decode prog_1_method_10_code 26 = .ok (.aload_n 0, 1) := by decide +kernel
theorem d_x_right_27 : decode prog_1_method_10_code 27 = .ok (.getfield 12, 3) := by decide +kernel
theorem d_x_right_30 : decode prog_1_method_10_code 30 = .ok (.getfield 102, 3) := by decide +kernel
theorem d_x_right_33 : decode prog_1_method_10_code 33 = .ok (.iload_n 1, 1) := by decide +kernel
theorem d_x_right_34 : decode prog_1_method_10_code 34 = .ok (.iload_n 2, 1) := by decide +kernel
theorem d_x_right_35 : decode prog_1_method_10_code 35 = .ok (.iastore, 1) := by decide +kernel
theorem d_x_right_36 : decode prog_1_method_10_code 36 = .ok (.iconst 1, 1) := by decide +kernel
theorem d_x_right_37 : decode prog_1_method_10_code 37 = .ok (.ireturn, 1) := by decide +kernel
theorem d_x_statistics_0 : decode prog_1_method_17_code 0 = .ok (.iload_n 1, 1) := by decide +kernel
theorem d_x_statistics_1 : decode prog_1_method_17_code 1 = .ok (.invokestatic 88, 3) := by decide +kernel
theorem d_x_statistics_4 : decode prog_1_method_17_code 4 = .ok (.ifCond .ne 5, 3) := by decide +kernel
theorem d_x_statistics_7 : decode prog_1_method_17_code 7 = .ok (.iconst (-1), 1) := by decide +kernel
theorem d_x_statistics_8 : decode prog_1_method_17_code 8 = .ok (.ireturn, 1) := by decide +kernel
theorem d_x_statistics_9 : decode prog_1_method_17_code 9 = .ok (.iload_n 2, 1) := by decide +kernel
theorem d_x_statistics_10 : decode prog_1_method_17_code 10 = .ok (.tableswitch 66 0 3 #[30, 39, 48, 57], 30) := by decide +kernel
theorem d_x_statistics_40 : decode prog_1_method_17_code 40 = .ok (.aload_n 0, 1) := by decide +kernel
theorem d_x_statistics_41 : decode prog_1_method_17_code 41 = .ok (.getfield 33, 3) := by decide +kernel
theorem d_x_statistics_44 : decode prog_1_method_17_code 44 = .ok (.iload_n 1, 1) := by decide +kernel
theorem d_x_statistics_45 : decode prog_1_method_17_code 45 = .ok (.invokevirtual 174, 3) := by decide +kernel
theorem d_x_statistics_48 : decode prog_1_method_17_code 48 = .ok (.ireturn, 1) := by decide +kernel
theorem d_x_statistics_49 : decode prog_1_method_17_code 49 = .ok (.aload_n 0, 1) := by decide +kernel
theorem d_x_statistics_50 : decode prog_1_method_17_code 50 = .ok (.getfield 33, 3) := by decide +kernel
theorem d_x_statistics_53 : decode prog_1_method_17_code 53 = .ok (.iload_n 1, 1) := by decide +kernel
theorem d_x_statistics_54 : decode prog_1_method_17_code 54 = .ok (.invokevirtual 177, 3) := by decide +kernel
theorem d_x_statistics_57 : decode prog_1_method_17_code 57 = .ok (.ireturn, 1) := by decide +kernel
theorem d_x_statistics_58 : decode prog_1_method_17_code 58 = .ok (.aload_n 0, 1) := by decide +kernel
theorem d_x_statistics_59 : decode prog_1_method_17_code 59 = .ok (.getfield 33, 3) := by decide +kernel
theorem d_x_statistics_62 : decode prog_1_method_17_code 62 = .ok (.iload_n 1, 1) := by decide +kernel
theorem d_x_statistics_63 : decode prog_1_method_17_code 63 = .ok (.invokevirtual 180, 3) := by decide +kernel
theorem d_x_statistics_66 : decode prog_1_method_17_code 66 = .ok (.ireturn, 1) := by decide +kernel
theorem d_x_statistics_67 : decode prog_1_method_17_code 67 = .ok (.aload_n 0, 1) := by decide +kernel
theorem d_x_statistics_68 : decode prog_1_method_17_code 68 = .ok (.getfield 33, 3) := by decide +kernel
theorem d_x_statistics_71 : decode prog_1_method_17_code 71 = .ok (.iload_n 1, 1) := by decide +kernel
theorem d_x_statistics_72 : decode prog_1_method_17_code 72 = .ok (.invokevirtual 183, 3) := by decide +kernel
theorem d_x_statistics_75 : decode prog_1_method_17_code 75 = .ok (.ireturn, 1) := by decide +kernel
theorem d_x_statistics_76 : decode prog_1_method_17_code 76 = .ok (.iconst (-1), 1) := by decide +kernel
theorem d_x_statistics_77 : decode prog_1_method_17_code 77 = .ok (.ireturn, 1) := by decide +kernel
theorem d_x_title_0 : decode prog_1_method_2_code 0 = .ok (.iload_n 1, 1) := by decide +kernel
theorem d_x_title_1 : decode prog_1_method_2_code 1 = .ok (.invokestatic 51, 3) := by decide +kernel
theorem d_x_title_4 : decode prog_1_method_2_code 4 = .ok (.ifCond .ne 6, 3) := by decide +kernel
theorem d_x_title_7 : decode prog_1_method_2_code 7 = .ok (.bipush (-2), 2) := by decide +kernel
theorem d_x_title_9 : decode prog_1_method_2_code 9 = .ok (.ireturn, 1) := by decide +kernel
theorem d_x_title_10 : decode prog_1_method_2_code 10 = .ok (.aload_n 0, 1) := by decide +kernel
theorem d_x_title_11 : decode prog_1_method_2_code 11 = .ok (.getfield 12, 3) := by decide +kernel
theorem d_x_title_14 : decode prog_1_method_2_code 14 = .ok (.iload_n 1, 1) := by decide +kernel
theorem d_x_title_15 : decode prog_1_method_2_code 15 = .ok (.invokevirtual 55, 3) := by decide +kernel
theorem d_x_title_18 : decode prog_1_method_2_code 18 = .ok (.ireturn, 1) := by decide +kernel
theorem d_x_waive_0 : decode prog_1_method_11_code 0 = .ok (.aload_n 0, 1) := by decide +kernel
theorem d_x_waive_1 : decode prog_1_method_11_code 1 = .ok (.getfield 12, 3) := by decide +kernel
theorem d_x_waive_4 : decode prog_1_method_11_code 4 = .ok (.iload_n 1, 1) := by decide +kernel
theorem d_x_waive_5 : decode prog_1_method_11_code 5 = .ok (.invokevirtual 59, 3) := by decide +kernel
theorem d_x_waive_8 : decode prog_1_method_11_code 8 = .ok (.ifCond .ne 5, 3) := by decide +kernel
theorem d_x_waive_11 : decode prog_1_method_11_code 11 = .ok (.iconst (-1), 1) := by decide +kernel
theorem d_x_waive_12 : decode prog_1_method_11_code 12 = .ok (.ireturn, 1) := by decide +kernel
theorem d_x_waive_13 : decode prog_1_method_11_code 13 = .ok (.iload_n 2, 1) := by decide +kernel
theorem d_x_waive_14 : decode prog_1_method_11_code 14 = .ok (.invokestatic 88, 3) := by decide +kernel
theorem d_x_waive_17 : decode prog_1_method_11_code 17 = .ok (.ifCond .ne 6, 3) := by decide +kernel
theorem d_x_waive_20 : decode prog_1_method_11_code 20 = .ok (.bipush (-2), 2) := by decide +kernel
theorem d_x_waive_22 : decode prog_1_method_11_code 22 = .ok (.ireturn, 1) := by decide +kernel
theorem d_x_waive_23 : decode prog_1_method_11_code 23 = .ok (.aload_n 0, 1) := by decide +kernel
theorem d_x_waive_24 : decode prog_1_method_11_code 24 = .ok (.iload_n 1, 1) := by decide +kernel
theorem d_x_waive_25 : decode prog_1_method_11_code 25 = .ok (.iload_n 2, 1) := by decide +kernel
theorem d_x_waive_26 : decode prog_1_method_11_code 26 = .ok (.invokevirtual 105, 3) := by decide +kernel
theorem d_x_waive_29 : decode prog_1_method_11_code 29 = .ok (.ifCond .ne 6, 3) := by decide +kernel
theorem d_x_waive_32 : decode prog_1_method_11_code 32 = .ok (.bipush (-3), 2) := by decide +kernel
theorem d_x_waive_34 : decode prog_1_method_11_code 34 = .ok (.ireturn, 1) := by decide +kernel
theorem d_x_waive_35 : decode prog_1_method_11_code 35 = .ok (.aload_n 0, 1) := by decide +kernel
theorem d_x_waive_36 : decode prog_1_method_11_code 36 = .ok (.getfield 12, 3) := by decide +kernel
theorem d_x_waive_39 : decode prog_1_method_11_code 39 = .ok (.getfield 109, 3) := by decide +kernel
theorem d_x_waive_42 : decode prog_1_method_11_code 42 = .ok (.iload_n 1, 1) := by decide +kernel
theorem d_x_waive_43 : decode prog_1_method_11_code 43 = .ok (.iaload, 1) := by decide +kernel
theorem d_x_waive_44 : decode prog_1_method_11_code 44 = .ok (.bipush 20, 2) := by decide +kernel
theorem d_x_waive_46 : decode prog_1_method_11_code 46 = .ok (.if_icmp .lt 6, 3) := by decide +kernel
theorem d_x_waive_49 : decode prog_1_method_11_code 49 = .ok (.bipush (-4), 2) := by decide +kernel
theorem d_x_waive_51 : decode prog_1_method_11_code 51 = .ok (.ireturn, 1) := by decide +kernel
theorem d_x_waive_52 : decode prog_1_method_11_code 52 = .ok (.aload_n 0, 1) := by decide +kernel
theorem d_x_waive_53 : decode prog_1_method_11_code 53 = .ok (.getfield 12, 3) := by decide +kernel
theorem d_x_waive_56 : decode prog_1_method_11_code 56 = .ok (.getfield 109, 3) := by decide +kernel
theorem d_x_waive_59 : decode prog_1_method_11_code 59 = .ok (.iload_n 1, 1) := by decide +kernel
theorem d_x_waive_60 : decode prog_1_method_11_code 60 = .ok (.dup2, 1) := by decide +kernel
theorem d_x_waive_61 : decode prog_1_method_11_code 61 = .ok (.iaload, 1) := by decide +kernel
theorem d_x_waive_62 : decode prog_1_method_11_code 62 = .ok (.iconst 1, 1) := by decide +kernel
theorem d_x_waive_63 : decode prog_1_method_11_code 63 = .ok (.iadd, 1) := by decide +kernel
theorem d_x_waive_64 : decode prog_1_method_11_code 64 = .ok (.iastore, 1) := by decide +kernel
theorem d_x_waive_65 : decode prog_1_method_11_code 65 = .ok (.aload_n 0, 1) := by decide +kernel
theorem d_x_waive_66 : decode prog_1_method_11_code 66 = .ok (.getfield 12, 3) := by decide +kernel
theorem d_x_waive_69 : decode prog_1_method_11_code 69 = .ok (.getfield 109, 3) := by decide +kernel
theorem d_x_waive_72 : decode prog_1_method_11_code 72 = .ok (.iload_n 1, 1) := by decide +kernel
theorem d_x_waive_73 : decode prog_1_method_11_code 73 = .ok (.iaload, 1) := by decide +kernel
theorem d_x_waive_74 : decode prog_1_method_11_code 74 = .ok (.ireturn, 1) := by decide +kernel
theorem d_x_why_0 : decode prog_1_method_8_code 0 = .ok (.aload_n 0, 1) := by decide +kernel
theorem d_x_why_1 : decode prog_1_method_8_code 1 = .ok (.getfield 48, 3) := by decide +kernel
theorem d_x_why_4 : decode prog_1_method_8_code 4 = .ok (.ireturn, 1) := by decide +kernel
theorem d_c_init_0 : decode prog_2_method_1_code 0 = .ok (.aload_n 0, 1) := by decide +kernel
theorem d_c_init_1 : decode prog_2_method_1_code 1 = .ok (.invokespecial 3, 3) := by decide +kernel
theorem d_c_init_4 : decode prog_2_method_1_code 4 = .ok (.aload_n 0, 1) := by decide +kernel
theorem d_c_init_5 : decode prog_2_method_1_code 5 = .ok (.bipush 50, 2) := by decide +kernel
theorem d_c_init_7 : decode prog_2_method_1_code 7 = .ok (.newarray .int, 2) := by decide +kernel
theorem d_c_init_9 : decode prog_2_method_1_code 9 = .ok (.putfield 9, 3) := by decide +kernel
theorem d_c_init_12 : decode prog_2_method_1_code 12 = .ok (.aload_n 0, 1) := by decide +kernel
theorem d_c_init_13 : decode prog_2_method_1_code 13 = .ok (.bipush 50, 2) := by decide +kernel
theorem d_c_init_15 : decode prog_2_method_1_code 15 = .ok (.newarray .int, 2) := by decide +kernel
theorem d_c_init_17 : decode prog_2_method_1_code 17 = .ok (.putfield 15, 3) := by decide +kernel
theorem d_c_init_20 : decode prog_2_method_1_code 20 = .ok (.aload_n 0, 1) := by decide +kernel
theorem d_c_init_21 : decode prog_2_method_1_code 21 = .ok (.bipush 50, 2) := by decide +kernel
theorem d_c_init_23 : decode prog_2_method_1_code 23 = .ok (.newarray .int, 2) := by decide +kernel
theorem d_c_init_25 : decode prog_2_method_1_code 25 = .ok (.putfield 18, 3) := by decide +kernel
theorem d_c_init_28 : decode prog_2_method_1_code 28 = .ok (.aload_n 0, 1) := by decide +kernel
theorem d_c_init_29 : decode prog_2_method_1_code 29 = .ok (.bipush 50, 2) := by decide +kernel
theorem d_c_init_31 : decode prog_2_method_1_code 31 = .ok (.newarray .int, 2) := by decide +kernel
theorem d_c_init_33 : decode prog_2_method_1_code 33 = .ok (.putfield 21, 3) := by decide +kernel
theorem d_c_init_36 : decode prog_2_method_1_code 36 = .ok (.aload_n 0, 1) := by decide +kernel
theorem d_c_init_37 : decode prog_2_method_1_code 37 = .ok (.bipush 50, 2) := by decide +kernel
theorem d_c_init_39 : decode prog_2_method_1_code 39 = .ok (.newarray .int, 2) := by decide +kernel
theorem d_c_init_41 : decode prog_2_method_1_code 41 = .ok (.putfield 24, 3) := by decide +kernel
theorem d_c_init_44 : decode prog_2_method_1_code 44 = .ok (.aload_n 0, 1) := by decide +kernel
theorem d_c_init_45 : decode prog_2_method_1_code 45 = .ok (.iconst 0, 1) := by decide +kernel
theorem d_c_init_46 : decode prog_2_method_1_code 46 = .ok (.putfield 27, 3) := by decide +kernel
theorem d_c_init_49 : decode prog_2_method_1_code 49 = .ok (.return_, 1) := by decide +kernel
theorem d_c_add_0 : decode prog_2_method_3_code 0 = .ok (.aload_n 0, 1) := by decide +kernel
theorem d_c_add_1 : decode prog_2_method_3_code 1 = .ok (.getfield 27, 3) := by decide +kernel
theorem d_c_add_4 : decode prog_2_method_3_code 4 = .ok (.bipush 50, 2) := by decide +kernel
theorem d_c_add_6 : decode prog_2_method_3_code 6 = .ok (.if_icmp .lt 6, 3) := by decide +kernel
theorem d_c_add_9 : decode prog_2_method_3_code 9 = .ok (.bipush (-4), 2) := by decide +kernel
theorem d_c_add_11 : decode prog_2_method_3_code 11 = .ok (.ireturn, 1) := by decide +kernel
theorem d_c_add_12 : decode prog_2_method_3_code 12 = .ok (.aload_n 0, 1) := by decide +kernel
theorem d_c_add_13 : decode prog_2_method_3_code 13 = .ok (.getfield 9, 3) := by decide +kernel
theorem d_c_add_16 : decode prog_2_method_3_code 16 = .ok (.aload_n 0, 1) := by decide +kernel
theorem d_c_add_17 : decode prog_2_method_3_code 17 = .ok (.getfield 27, 3) := by decide +kernel
theorem d_c_add_20 : decode prog_2_method_3_code 20 = .ok (.iload_n 1, 1) := by decide +kernel
theorem d_c_add_21 : decode prog_2_method_3_code 21 = .ok (.iastore, 1) := by decide +kernel
theorem d_c_add_22 : decode prog_2_method_3_code 22 = .ok (.aload_n 0, 1) := by decide +kernel
theorem d_c_add_23 : decode prog_2_method_3_code 23 = .ok (.getfield 15, 3) := by decide +kernel
theorem d_c_add_26 : decode prog_2_method_3_code 26 = .ok (.aload_n 0, 1) := by decide +kernel
theorem d_c_add_27 : decode prog_2_method_3_code 27 = .ok (.getfield 27, 3) := by decide +kernel
theorem d_c_add_30 : decode prog_2_method_3_code 30 = .ok (.iload_n 2, 1) := by decide +kernel
theorem d_c_add_31 : decode prog_2_method_3_code 31 = .ok (.iastore, 1) := by decide +kernel
theorem d_c_add_32 : decode prog_2_method_3_code 32 = .ok (.aload_n 0, 1) := by decide +kernel
theorem d_c_add_33 : decode prog_2_method_3_code 33 = .ok (.getfield 18, 3) := by decide +kernel
theorem d_c_add_36 : decode prog_2_method_3_code 36 = .ok (.aload_n 0, 1) := by decide +kernel
theorem d_c_add_37 : decode prog_2_method_3_code 37 = .ok (.getfield 27, 3) := by decide +kernel
theorem d_c_add_40 : decode prog_2_method_3_code 40 = .ok (.iload_n 3, 1) := by decide +kernel
theorem d_c_add_41 : decode prog_2_method_3_code 41 = .ok (.iastore, 1) := by decide +kernel
theorem d_c_add_42 : decode prog_2_method_3_code 42 = .ok (.aload_n 0, 1) := by decide +kernel
theorem d_c_add_43 : decode prog_2_method_3_code 43 = .ok (.getfield 21, 3) := by decide +kernel
theorem d_c_add_46 : decode prog_2_method_3_code 46 = .ok (.aload_n 0, 1) := by decide +kernel
theorem d_c_add_47 : decode prog_2_method_3_code 47 = .ok (.getfield 27, 3) := by decide +kernel
theorem d_c_add_50 : decode prog_2_method_3_code 50 = .ok (.iload 4, 2) := by decide +kernel
theorem d_c_add_52 : decode prog_2_method_3_code 52 = .ok (.iastore, 1) := by decide +kernel
theorem d_c_add_53 : decode prog_2_method_3_code 53 = .ok (.aload_n 0, 1) := by decide +kernel
theorem d_c_add_54 : decode prog_2_method_3_code 54 = .ok (.getfield 24, 3) := by decide +kernel
theorem d_c_add_57 : decode prog_2_method_3_code 57 = .ok (.aload_n 0, 1) := by decide +kernel
theorem d_c_add_58 : decode prog_2_method_3_code 58 = .ok (.getfield 27, 3) := by decide +kernel
theorem d_c_add_61 : decode prog_2_method_3_code 61 = .ok (.iload 5, 2) := by decide +kernel
theorem d_c_add_63 : decode prog_2_method_3_code 63 = .ok (.iastore, 1) := by decide +kernel
theorem d_c_add_64 : decode prog_2_method_3_code 64 = .ok (.aload_n 0, 1) := by decide +kernel
theorem d_c_add_65 : decode prog_2_method_3_code 65 = .ok (.dup, 1) := by decide +kernel
theorem d_c_add_66 : decode prog_2_method_3_code 66 = .ok (.getfield 27, 3) := by decide +kernel
theorem d_c_add_69 : decode prog_2_method_3_code 69 = .ok (.iconst 1, 1) := by decide +kernel
theorem d_c_add_70 : decode prog_2_method_3_code 70 = .ok (.iadd, 1) := by decide +kernel
theorem d_c_add_71 : decode prog_2_method_3_code 71 = .ok (.putfield 27, 3) := by decide +kernel
theorem d_c_add_74 : decode prog_2_method_3_code 74 = .ok (.aload_n 0, 1) := by decide +kernel
theorem d_c_add_75 : decode prog_2_method_3_code 75 = .ok (.getfield 27, 3) := by decide +kernel
theorem d_c_add_78 : decode prog_2_method_3_code 78 = .ok (.iconst 1, 1) := by decide +kernel
theorem d_c_add_79 : decode prog_2_method_3_code 79 = .ok (.isub, 1) := by decide +kernel
theorem d_c_add_80 : decode prog_2_method_3_code 80 = .ok (.ireturn, 1) := by decide +kernel
theorem d_c_firstThatHolds_0 : decode prog_2_method_4_code 0 = .ok (.iconst 0, 1) := by decide +kernel
theorem d_c_firstThatHolds_1 : decode prog_2_method_4_code 1 = .ok (.istore 4, 2) := by decide +kernel
theorem d_c_firstThatHolds_3 : decode prog_2_method_4_code 3 = .ok (.iload 4, 2) := by decide +kernel
theorem d_c_firstThatHolds_5 : decode prog_2_method_4_code 5 = .ok (.aload_n 0, 1) := by decide +kernel
theorem d_c_firstThatHolds_6 : decode prog_2_method_4_code 6 = .ok (.getfield 27, 3) := by decide +kernel
theorem d_c_firstThatHolds_9 : decode prog_2_method_4_code 9 = .ok (.if_icmp .ge 65, 3) := by decide +kernel
theorem d_c_firstThatHolds_12 : decode prog_2_method_4_code 12 = .ok (.aload_n 0, 1) := by decide +kernel
theorem d_c_firstThatHolds_13 : decode prog_2_method_4_code 13 = .ok (.getfield 9, 3) := by decide +kernel
theorem d_c_firstThatHolds_16 : decode prog_2_method_4_code 16 = .ok (.iload 4, 2) := by decide +kernel
theorem d_c_firstThatHolds_18 : decode prog_2_method_4_code 18 = .ok (.iaload, 1) := by decide +kernel
theorem d_c_firstThatHolds_19 : decode prog_2_method_4_code 19 = .ok (.iload_n 1, 1) := by decide +kernel
theorem d_c_firstThatHolds_20 : decode prog_2_method_4_code 20 = .ok (.if_icmp .ne 48, 3) := by decide +kernel
theorem d_c_firstThatHolds_23 : decode prog_2_method_4_code 23 = .ok (.aload_n 0, 1) := by decide +kernel
theorem d_c_firstThatHolds_24 : decode prog_2_method_4_code 24 = .ok (.getfield 15, 3) := by decide +kernel
theorem d_c_firstThatHolds_27 : decode prog_2_method_4_code 27 = .ok (.iload 4, 2) := by decide +kernel
theorem d_c_firstThatHolds_29 : decode prog_2_method_4_code 29 = .ok (.iaload, 1) := by decide +kernel
theorem d_c_firstThatHolds_30 : decode prog_2_method_4_code 30 = .ok (.iload_n 2, 1) := by decide +kernel
theorem d_c_firstThatHolds_31 : decode prog_2_method_4_code 31 = .ok (.if_icmp .ne 37, 3) := by decide +kernel
theorem d_c_firstThatHolds_34 : decode prog_2_method_4_code 34 = .ok (.iload_n 3, 1) := by decide +kernel
theorem d_c_firstThatHolds_35 : decode prog_2_method_4_code 35 = .ok (.aload_n 0, 1) := by decide +kernel
theorem d_c_firstThatHolds_36 : decode prog_2_method_4_code 36 = .ok (.getfield 21, 3) := by decide +kernel
theorem d_c_firstThatHolds_39 : decode prog_2_method_4_code 39 = .ok (.iload 4, 2) := by decide +kernel
theorem d_c_firstThatHolds_41 : decode prog_2_method_4_code 41 = .ok (.iaload, 1) := by decide +kernel
theorem d_c_firstThatHolds_42 : decode prog_2_method_4_code 42 = .ok (.aload_n 0, 1) := by decide +kernel
theorem d_c_firstThatHolds_43 : decode prog_2_method_4_code 43 = .ok (.getfield 24, 3) := by decide +kernel
theorem d_c_firstThatHolds_46 : decode prog_2_method_4_code 46 = .ok (.iload 4, 2) := by decide +kernel
theorem d_c_firstThatHolds_48 : decode prog_2_method_4_code 48 = .ok (.iaload, 1) := by decide +kernel
theorem d_c_firstThatHolds_49 : decode prog_2_method_4_code 49 = .ok (.invokestatic 31, 3) := by decide +kernel
theorem d_c_firstThatHolds_52 : decode prog_2_method_4_code 52 = .ok (.ifCond .eq 16, 3) := by decide +kernel
theorem d_c_firstThatHolds_55 : decode prog_2_method_4_code 55 = .ok (.aload_n 0, 1) := by decide +kernel
theorem d_c_firstThatHolds_56 : decode prog_2_method_4_code 56 = .ok (.getfield 18, 3) := by decide +kernel
theorem d_c_firstThatHolds_59 : decode prog_2_method_4_code 59 = .ok (.iload 4, 2) := by decide +kernel
theorem d_c_firstThatHolds_61 : decode prog_2_method_4_code 61 = .ok (.iaload, 1) := by decide +kernel
theorem d_c_firstThatHolds_62 : decode prog_2_method_4_code 62 = .ok (.ifCond .le 6, 3) := by decide +kernel
theorem d_c_firstThatHolds_65 : decode prog_2_method_4_code 65 = .ok (.iload 4, 2) := by decide +kernel
theorem d_c_firstThatHolds_67 : decode prog_2_method_4_code 67 = .ok (.ireturn, 1) := by decide +kernel
theorem d_c_firstThatHolds_68 : decode prog_2_method_4_code 68 = .ok (.iinc 4 1, 3) := by decide +kernel
theorem d_c_firstThatHolds_71 : decode prog_2_method_4_code 71 = .ok (.goto (-68), 3) := by decide +kernel
theorem d_c_firstThatHolds_74 : decode prog_2_method_4_code 74 = .ok (.iconst (-1), 1) := by decide +kernel
theorem d_c_firstThatHolds_75 : decode prog_2_method_4_code 75 = .ok (.ireturn, 1) := by decide +kernel
theorem d_c_has_0 : decode prog_2_method_2_code 0 = .ok (.iload_n 1, 1) := by decide +kernel
theorem d_c_has_1 : decode prog_2_method_2_code 1 = .ok (.ifCond .lt 15, 3) := by decide +kernel
theorem d_c_has_4 : decode prog_2_method_2_code 4 = .ok (.iload_n 1, 1) := by decide +kernel
theorem d_c_has_5 : decode prog_2_method_2_code 5 = .ok (.aload_n 0, 1) := by decide +kernel
theorem d_c_has_6 : decode prog_2_method_2_code 6 = .ok (.getfield 27, 3) := by decide +kernel
theorem d_c_has_9 : decode prog_2_method_2_code 9 = .ok (.if_icmp .ge 7, 3) := by decide +kernel
theorem d_c_has_12 : decode prog_2_method_2_code 12 = .ok (.iconst 1, 1) := by decide +kernel
theorem d_c_has_13 : decode prog_2_method_2_code 13 = .ok (.goto 4, 3) := by decide +kernel
theorem d_c_has_16 : decode prog_2_method_2_code 16 = .ok (.iconst 0, 1) := by decide +kernel
theorem d_c_has_17 : decode prog_2_method_2_code 17 = .ok (.ireturn, 1) := by decide +kernel
theorem d_l_init_0 : decode prog_3_method_1_code 0 = .ok (.aload_n 0, 1) := by decide +kernel
theorem d_l_init_1 : decode prog_3_method_1_code 1 = .ok (.invokespecial 3, 3) := by decide +kernel
theorem d_l_init_4 : decode prog_3_method_1_code 4 = .ok (.aload_n 0, 1) := by decide +kernel
theorem d_l_init_5 : decode prog_3_method_1_code 5 = .ok (.bipush 100, 2) := by decide +kernel
theorem d_l_init_7 : decode prog_3_method_1_code 7 = .ok (.newarray .int, 2) := by decide +kernel
theorem d_l_init_9 : decode prog_3_method_1_code 9 = .ok (.putfield 9, 3) := by decide +kernel
theorem d_l_init_12 : decode prog_3_method_1_code 12 = .ok (.aload_n 0, 1) := by decide +kernel
theorem d_l_init_13 : decode prog_3_method_1_code 13 = .ok (.bipush 100, 2) := by decide +kernel
theorem d_l_init_15 : decode prog_3_method_1_code 15 = .ok (.newarray .int, 2) := by decide +kernel
theorem d_l_init_17 : decode prog_3_method_1_code 17 = .ok (.putfield 15, 3) := by decide +kernel
theorem d_l_init_20 : decode prog_3_method_1_code 20 = .ok (.aload_n 0, 1) := by decide +kernel
theorem d_l_init_21 : decode prog_3_method_1_code 21 = .ok (.bipush 100, 2) := by decide +kernel
theorem d_l_init_23 : decode prog_3_method_1_code 23 = .ok (.newarray .int, 2) := by decide +kernel
theorem d_l_init_25 : decode prog_3_method_1_code 25 = .ok (.putfield 18, 3) := by decide +kernel
theorem d_l_init_28 : decode prog_3_method_1_code 28 = .ok (.aload_n 0, 1) := by decide +kernel
theorem d_l_init_29 : decode prog_3_method_1_code 29 = .ok (.bipush 100, 2) := by decide +kernel
theorem d_l_init_31 : decode prog_3_method_1_code 31 = .ok (.newarray .int, 2) := by decide +kernel
theorem d_l_init_33 : decode prog_3_method_1_code 33 = .ok (.putfield 21, 3) := by decide +kernel
theorem d_l_init_36 : decode prog_3_method_1_code 36 = .ok (.aload_n 0, 1) := by decide +kernel
theorem d_l_init_37 : decode prog_3_method_1_code 37 = .ok (.iconst 0, 1) := by decide +kernel
theorem d_l_init_38 : decode prog_3_method_1_code 38 = .ok (.putfield 24, 3) := by decide +kernel
theorem d_l_init_41 : decode prog_3_method_1_code 41 = .ok (.return_, 1) := by decide +kernel
theorem d_l_add_0 : decode prog_3_method_2_code 0 = .ok (.aload_n 0, 1) := by decide +kernel
theorem d_l_add_1 : decode prog_3_method_2_code 1 = .ok (.getfield 24, 3) := by decide +kernel
theorem d_l_add_4 : decode prog_3_method_2_code 4 = .ok (.bipush 100, 2) := by decide +kernel
theorem d_l_add_6 : decode prog_3_method_2_code 6 = .ok (.if_icmp .lt 6, 3) := by decide +kernel
theorem d_l_add_9 : decode prog_3_method_2_code 9 = .ok (.bipush (-4), 2) := by decide +kernel
theorem d_l_add_11 : decode prog_3_method_2_code 11 = .ok (.ireturn, 1) := by decide +kernel
theorem d_l_add_12 : decode prog_3_method_2_code 12 = .ok (.aload_n 0, 1) := by decide +kernel
theorem d_l_add_13 : decode prog_3_method_2_code 13 = .ok (.getfield 9, 3) := by decide +kernel
theorem d_l_add_16 : decode prog_3_method_2_code 16 = .ok (.aload_n 0, 1) := by decide +kernel
theorem d_l_add_17 : decode prog_3_method_2_code 17 = .ok (.getfield 24, 3) := by decide +kernel
theorem d_l_add_20 : decode prog_3_method_2_code 20 = .ok (.iload_n 1, 1) := by decide +kernel
theorem d_l_add_21 : decode prog_3_method_2_code 21 = .ok (.iastore, 1) := by decide +kernel
theorem d_l_add_22 : decode prog_3_method_2_code 22 = .ok (.aload_n 0, 1) := by decide +kernel
theorem d_l_add_23 : decode prog_3_method_2_code 23 = .ok (.getfield 15, 3) := by decide +kernel
theorem d_l_add_26 : decode prog_3_method_2_code 26 = .ok (.aload_n 0, 1) := by decide +kernel
theorem d_l_add_27 : decode prog_3_method_2_code 27 = .ok (.getfield 24, 3) := by decide +kernel
theorem d_l_add_30 : decode prog_3_method_2_code 30 = .ok (.iload_n 2, 1) := by decide +kernel
theorem d_l_add_31 : decode prog_3_method_2_code 31 = .ok (.iastore, 1) := by decide +kernel
theorem d_l_add_32 : decode prog_3_method_2_code 32 = .ok (.aload_n 0, 1) := by decide +kernel
theorem d_l_add_33 : decode prog_3_method_2_code 33 = .ok (.getfield 18, 3) := by decide +kernel
theorem d_l_add_36 : decode prog_3_method_2_code 36 = .ok (.aload_n 0, 1) := by decide +kernel
theorem d_l_add_37 : decode prog_3_method_2_code 37 = .ok (.getfield 24, 3) := by decide +kernel
theorem d_l_add_40 : decode prog_3_method_2_code 40 = .ok (.iload_n 3, 1) := by decide +kernel
theorem d_l_add_41 : decode prog_3_method_2_code 41 = .ok (.iastore, 1) := by decide +kernel
theorem d_l_add_42 : decode prog_3_method_2_code 42 = .ok (.aload_n 0, 1) := by decide +kernel
theorem d_l_add_43 : decode prog_3_method_2_code 43 = .ok (.getfield 21, 3) := by decide +kernel
theorem d_l_add_46 : decode prog_3_method_2_code 46 = .ok (.aload_n 0, 1) := by decide +kernel
theorem d_l_add_47 : decode prog_3_method_2_code 47 = .ok (.getfield 24, 3) := by decide +kernel
theorem d_l_add_50 : decode prog_3_method_2_code 50 = .ok (.iload 4, 2) := by decide +kernel
theorem d_l_add_52 : decode prog_3_method_2_code 52 = .ok (.iastore, 1) := by decide +kernel
theorem d_l_add_53 : decode prog_3_method_2_code 53 = .ok (.aload_n 0, 1) := by decide +kernel
theorem d_l_add_54 : decode prog_3_method_2_code 54 = .ok (.dup, 1) := by decide +kernel
theorem d_l_add_55 : decode prog_3_method_2_code 55 = .ok (.getfield 24, 3) := by decide +kernel
theorem d_l_add_58 : decode prog_3_method_2_code 58 = .ok (.iconst 1, 1) := by decide +kernel
theorem d_l_add_59 : decode prog_3_method_2_code 59 = .ok (.iadd, 1) := by decide +kernel
theorem d_l_add_60 : decode prog_3_method_2_code 60 = .ok (.putfield 24, 3) := by decide +kernel
theorem d_l_add_63 : decode prog_3_method_2_code 63 = .ok (.aload_n 0, 1) := by decide +kernel
theorem d_l_add_64 : decode prog_3_method_2_code 64 = .ok (.getfield 24, 3) := by decide +kernel
theorem d_l_add_67 : decode prog_3_method_2_code 67 = .ok (.iconst 1, 1) := by decide +kernel
theorem d_l_add_68 : decode prog_3_method_2_code 68 = .ok (.isub, 1) := by decide +kernel
theorem d_l_add_69 : decode prog_3_method_2_code 69 = .ok (.ireturn, 1) := by decide +kernel
theorem d_l_isOf_0 : decode prog_3_method_3_code 0 = .ok (.aload_n 0, 1) := by decide +kernel
theorem d_l_isOf_1 : decode prog_3_method_3_code 1 = .ok (.getfield 9, 3) := by decide +kernel
theorem d_l_isOf_4 : decode prog_3_method_3_code 4 = .ok (.iload_n 1, 1) := by decide +kernel
theorem d_l_isOf_5 : decode prog_3_method_3_code 5 = .ok (.iaload, 1) := by decide +kernel
theorem d_l_isOf_6 : decode prog_3_method_3_code 6 = .ok (.iload_n 2, 1) := by decide +kernel
theorem d_l_isOf_7 : decode prog_3_method_3_code 7 = .ok (.if_icmp .ne 17, 3) := by decide +kernel
theorem d_l_isOf_10 : decode prog_3_method_3_code 10 = .ok (.aload_n 0, 1) := by decide +kernel
theorem d_l_isOf_11 : decode prog_3_method_3_code 11 = .ok (.getfield 15, 3) := by decide +kernel
theorem d_l_isOf_14 : decode prog_3_method_3_code 14 = .ok (.iload_n 1, 1) := by decide +kernel
theorem d_l_isOf_15 : decode prog_3_method_3_code 15 = .ok (.iaload, 1) := by decide +kernel
theorem d_l_isOf_16 : decode prog_3_method_3_code 16 = .ok (.iload_n 3, 1) := by decide +kernel
theorem d_l_isOf_17 : decode prog_3_method_3_code 17 = .ok (.if_icmp .ne 7, 3) := by decide +kernel
theorem d_l_isOf_20 : decode prog_3_method_3_code 20 = .ok (.iconst 1, 1) := by decide +kernel
theorem d_l_isOf_21 : decode prog_3_method_3_code 21 = .ok (.goto 4, 3) := by decide +kernel
theorem d_l_isOf_24 : decode prog_3_method_3_code 24 = .ok (.iconst 0, 1) := by decide +kernel
theorem d_l_isOf_25 : decode prog_3_method_3_code 25 = .ok (.ireturn, 1) := by decide +kernel
theorem d_q_init_0 : decode prog_4_method_1_code 0 = .ok (.aload_n 0, 1) := by decide +kernel
theorem d_q_init_1 : decode prog_4_method_1_code 1 = .ok (.invokespecial 3, 3) := by decide +kernel
theorem d_q_init_4 : decode prog_4_method_1_code 4 = .ok (.aload_n 0, 1) := by decide +kernel
theorem d_q_init_5 : decode prog_4_method_1_code 5 = .ok (.sipush 300, 3) := by decide +kernel
theorem d_q_init_8 : decode prog_4_method_1_code 8 = .ok (.newarray .int, 2) := by decide +kernel
theorem d_q_init_10 : decode prog_4_method_1_code 10 = .ok (.putfield 9, 3) := by decide +kernel
theorem d_q_init_13 : decode prog_4_method_1_code 13 = .ok (.aload_n 0, 1) := by decide +kernel
theorem d_q_init_14 : decode prog_4_method_1_code 14 = .ok (.sipush 300, 3) := by decide +kernel
theorem d_q_init_17 : decode prog_4_method_1_code 17 = .ok (.newarray .int, 2) := by decide +kernel
theorem d_q_init_19 : decode prog_4_method_1_code 19 = .ok (.putfield 15, 3) := by decide +kernel
theorem d_q_init_22 : decode prog_4_method_1_code 22 = .ok (.aload_n 0, 1) := by decide +kernel
theorem d_q_init_23 : decode prog_4_method_1_code 23 = .ok (.sipush 300, 3) := by decide +kernel
theorem d_q_init_26 : decode prog_4_method_1_code 26 = .ok (.newarray .int, 2) := by decide +kernel
theorem d_q_init_28 : decode prog_4_method_1_code 28 = .ok (.putfield 18, 3) := by decide +kernel
theorem d_q_init_31 : decode prog_4_method_1_code 31 = .ok (.aload_n 0, 1) := by decide +kernel
theorem d_q_init_32 : decode prog_4_method_1_code 32 = .ok (.sipush 300, 3) := by decide +kernel
theorem d_q_init_35 : decode prog_4_method_1_code 35 = .ok (.newarray .int, 2) := by decide +kernel
theorem d_q_init_37 : decode prog_4_method_1_code 37 = .ok (.putfield 21, 3) := by decide +kernel
theorem d_q_init_40 : decode prog_4_method_1_code 40 = .ok (.aload_n 0, 1) := by decide +kernel
theorem d_q_init_41 : decode prog_4_method_1_code 41 = .ok (.sipush 300, 3) := by decide +kernel
theorem d_q_init_44 : decode prog_4_method_1_code 44 = .ok (.newarray .int, 2) := by decide +kernel
theorem d_q_init_46 : decode prog_4_method_1_code 46 = .ok (.putfield 24, 3) := by decide +kernel
theorem d_q_init_49 : decode prog_4_method_1_code 49 = .ok (.aload_n 0, 1) := by decide +kernel
theorem d_q_init_50 : decode prog_4_method_1_code 50 = .ok (.sipush 300, 3) := by decide +kernel
theorem d_q_init_53 : decode prog_4_method_1_code 53 = .ok (.newarray .int, 2) := by decide +kernel
theorem d_q_init_55 : decode prog_4_method_1_code 55 = .ok (.putfield 27, 3) := by decide +kernel
theorem d_q_init_58 : decode prog_4_method_1_code 58 = .ok (.aload_n 0, 1) := by decide +kernel
theorem d_q_init_59 : decode prog_4_method_1_code 59 = .ok (.sipush 300, 3) := by decide +kernel
theorem d_q_init_62 : decode prog_4_method_1_code 62 = .ok (.newarray .int, 2) := by decide +kernel
theorem d_q_init_64 : decode prog_4_method_1_code 64 = .ok (.putfield 30, 3) := by decide +kernel
theorem d_q_init_67 : decode prog_4_method_1_code 67 = .ok (.aload_n 0, 1) := by decide +kernel
theorem d_q_init_68 : decode prog_4_method_1_code 68 = .ok (.sipush 300, 3) := by decide +kernel
theorem d_q_init_71 : decode prog_4_method_1_code 71 = .ok (.newarray .int, 2) := by decide +kernel
theorem d_q_init_73 : decode prog_4_method_1_code 73 = .ok (.putfield 33, 3) := by decide +kernel
theorem d_q_init_76 : decode prog_4_method_1_code 76 = .ok (.aload_n 0, 1) := by decide +kernel
theorem d_q_init_77 : decode prog_4_method_1_code 77 = .ok (.sipush 300, 3) := by decide +kernel
theorem d_q_init_80 : decode prog_4_method_1_code 80 = .ok (.newarray .int, 2) := by decide +kernel
theorem d_q_init_82 : decode prog_4_method_1_code 82 = .ok (.putfield 36, 3) := by decide +kernel
theorem d_q_init_85 : decode prog_4_method_1_code 85 = .ok (.aload_n 0, 1) := by decide +kernel
theorem d_q_init_86 : decode prog_4_method_1_code 86 = .ok (.sipush 300, 3) := by decide +kernel
theorem d_q_init_89 : decode prog_4_method_1_code 89 = .ok (.newarray .int, 2) := by decide +kernel
theorem d_q_init_91 : decode prog_4_method_1_code 91 = .ok (.putfield 39, 3) := by decide +kernel
theorem d_q_init_94 : decode prog_4_method_1_code 94 = .ok (.aload_n 0, 1) := by decide +kernel
theorem d_q_init_95 : decode prog_4_method_1_code 95 = .ok (.sipush 300, 3) := by decide +kernel
theorem d_q_init_98 : decode prog_4_method_1_code 98 = .ok (.newarray .int, 2) := by decide +kernel
theorem d_q_init_100 : decode prog_4_method_1_code 100 = .ok (.putfield 42, 3) := by decide +kernel
theorem d_q_init_103 : decode prog_4_method_1_code 103 = .ok (.aload_n 0, 1) := by decide +kernel
theorem d_q_init_104 : decode prog_4_method_1_code 104 = .ok (.sipush 300, 3) := by decide +kernel
theorem d_q_init_107 : decode prog_4_method_1_code 107 = .ok (.newarray .int, 2) := by decide +kernel
theorem d_q_init_109 : decode prog_4_method_1_code 109 = .ok (.putfield 45, 3) := by decide +kernel
theorem d_q_init_112 : decode prog_4_method_1_code 112 = .ok (.aload_n 0, 1) := by decide +kernel
theorem d_q_init_113 : decode prog_4_method_1_code 113 = .ok (.iconst 0, 1) := by decide +kernel
theorem d_q_init_114 : decode prog_4_method_1_code 114 = .ok (.putfield 48, 3) := by decide +kernel
theorem d_q_init_117 : decode prog_4_method_1_code 117 = .ok (.return_, 1) := by decide +kernel
theorem d_q_add_0 : decode prog_4_method_3_code 0 = .ok (.aload_n 0, 1) := by decide +kernel
theorem d_q_add_1 : decode prog_4_method_3_code 1 = .ok (.getfield 48, 3) := by decide +kernel
theorem d_q_add_4 : decode prog_4_method_3_code 4 = .ok (.sipush 300, 3) := by decide +kernel
theorem d_q_add_7 : decode prog_4_method_3_code 7 = .ok (.if_icmp .lt 6, 3) := by decide +kernel
theorem d_q_add_10 : decode prog_4_method_3_code 10 = .ok (.bipush (-4), 2) := by decide +kernel
theorem d_q_add_12 : decode prog_4_method_3_code 12 = .ok (.ireturn, 1) := by decide +kernel
theorem d_q_add_13 : decode prog_4_method_3_code 13 = .ok (.aload_n 0, 1) := by decide +kernel
theorem d_q_add_14 : decode prog_4_method_3_code 14 = .ok (.getfield 9, 3) := by decide +kernel
theorem d_q_add_17 : decode prog_4_method_3_code 17 = .ok (.aload_n 0, 1) := by decide +kernel
theorem d_q_add_18 : decode prog_4_method_3_code 18 = .ok (.getfield 48, 3) := by decide +kernel
theorem d_q_add_21 : decode prog_4_method_3_code 21 = .ok (.iload_n 1, 1) := by decide +kernel
theorem d_q_add_22 : decode prog_4_method_3_code 22 = .ok (.iastore, 1) := by decide +kernel
theorem d_q_add_23 : decode prog_4_method_3_code 23 = .ok (.aload_n 0, 1) := by decide +kernel
theorem d_q_add_24 : decode prog_4_method_3_code 24 = .ok (.getfield 15, 3) := by decide +kernel
theorem d_q_add_27 : decode prog_4_method_3_code 27 = .ok (.aload_n 0, 1) := by decide +kernel
theorem d_q_add_28 : decode prog_4_method_3_code 28 = .ok (.getfield 48, 3) := by decide +kernel
theorem d_q_add_31 : decode prog_4_method_3_code 31 = .ok (.iload_n 2, 1) := by decide +kernel
theorem d_q_add_32 : decode prog_4_method_3_code 32 = .ok (.iastore, 1) := by decide +kernel
theorem d_q_add_33 : decode prog_4_method_3_code 33 = .ok (.aload_n 0, 1) := by decide +kernel
theorem d_q_add_34 : decode prog_4_method_3_code 34 = .ok (.getfield 18, 3) := by decide +kernel
theorem d_q_add_37 : decode prog_4_method_3_code 37 = .ok (.aload_n 0, 1) := by decide +kernel
theorem d_q_add_38 : decode prog_4_method_3_code 38 = .ok (.getfield 48, 3) := by decide +kernel
theorem d_q_add_41 : decode prog_4_method_3_code 41 = .ok (.iload_n 3, 1) := by decide +kernel
theorem d_q_add_42 : decode prog_4_method_3_code 42 = .ok (.iastore, 1) := by decide +kernel
theorem d_q_add_43 : decode prog_4_method_3_code 43 = .ok (.aload_n 0, 1) := by decide +kernel
theorem d_q_add_44 : decode prog_4_method_3_code 44 = .ok (.getfield 21, 3) := by decide +kernel
theorem d_q_add_47 : decode prog_4_method_3_code 47 = .ok (.aload_n 0, 1) := by decide +kernel
theorem d_q_add_48 : decode prog_4_method_3_code 48 = .ok (.getfield 48, 3) := by decide +kernel
theorem d_q_add_51 : decode prog_4_method_3_code 51 = .ok (.iload 4, 2) := by decide +kernel
theorem d_q_add_53 : decode prog_4_method_3_code 53 = .ok (.iastore, 1) := by decide +kernel
theorem d_q_add_54 : decode prog_4_method_3_code 54 = .ok (.aload_n 0, 1) := by decide +kernel
theorem d_q_add_55 : decode prog_4_method_3_code 55 = .ok (.getfield 24, 3) := by decide +kernel
theorem d_q_add_58 : decode prog_4_method_3_code 58 = .ok (.aload_n 0, 1) := by decide +kernel
theorem d_q_add_59 : decode prog_4_method_3_code 59 = .ok (.getfield 48, 3) := by decide +kernel
theorem d_q_add_62 : decode prog_4_method_3_code 62 = .ok (.iload 5, 2) := by decide +kernel
theorem d_q_add_64 : decode prog_4_method_3_code 64 = .ok (.iastore, 1) := by decide +kernel
theorem d_q_add_65 : decode prog_4_method_3_code 65 = .ok (.aload_n 0, 1) := by decide +kernel
theorem d_q_add_66 : decode prog_4_method_3_code 66 = .ok (.getfield 27, 3) := by decide +kernel
theorem d_q_add_69 : decode prog_4_method_3_code 69 = .ok (.aload_n 0, 1) := by decide +kernel
theorem d_q_add_70 : decode prog_4_method_3_code 70 = .ok (.getfield 48, 3) := by decide +kernel
theorem d_q_add_73 : decode prog_4_method_3_code 73 = .ok (.iconst 0, 1) := by decide +kernel
theorem d_q_add_74 : decode prog_4_method_3_code 74 = .ok (.iastore, 1) := by decide +kernel
theorem d_q_add_75 : decode prog_4_method_3_code 75 = .ok (.aload_n 0, 1) := by decide +kernel
theorem d_q_add_76 : decode prog_4_method_3_code 76 = .ok (.getfield 30, 3) := by decide +kernel
theorem d_q_add_79 : decode prog_4_method_3_code 79 = .ok (.aload_n 0, 1) := by decide +kernel
theorem d_q_add_80 : decode prog_4_method_3_code 80 = .ok (.getfield 48, 3) := by decide +kernel
theorem d_q_add_83 : decode prog_4_method_3_code 83 = .ok (.iconst (-1), 1) := by decide +kernel
theorem d_q_add_84 : decode prog_4_method_3_code 84 = .ok (.iastore, 1) := by decide +kernel
theorem d_q_add_85 : decode prog_4_method_3_code 85 = .ok (.aload_n 0, 1) := by decide +kernel
theorem d_q_add_86 : decode prog_4_method_3_code 86 = .ok (.getfield 39, 3) := by decide +kernel
theorem d_q_add_89 : decode prog_4_method_3_code 89 = .ok (.aload_n 0, 1) := by decide +kernel
theorem d_q_add_90 : decode prog_4_method_3_code 90 = .ok (.getfield 48, 3) := by decide +kernel
theorem d_q_add_93 : decode prog_4_method_3_code 93 = .ok (.iconst (-1), 1) := by decide +kernel
theorem d_q_add_94 : decode prog_4_method_3_code 94 = .ok (.iastore, 1) := by decide +kernel
theorem d_q_add_95 : decode prog_4_method_3_code 95 = .ok (.aload_n 0, 1) := by decide +kernel
theorem d_q_add_96 : decode prog_4_method_3_code 96 = .ok (.getfield 45, 3) := by decide +kernel
theorem d_q_add_99 : decode prog_4_method_3_code 99 = .ok (.aload_n 0, 1) := by decide +kernel
theorem d_q_add_100 : decode prog_4_method_3_code 100 = .ok (.getfield 48, 3) := by decide +kernel
theorem d_q_add_103 : decode prog_4_method_3_code 103 = .ok (.iconst (-1), 1) := by decide +kernel
theorem d_q_add_104 : decode prog_4_method_3_code 104 = .ok (.iastore, 1) := by decide +kernel
theorem d_q_add_105 : decode prog_4_method_3_code 105 = .ok (.aload_n 0, 1) := by decide +kernel
theorem d_q_add_106 : decode prog_4_method_3_code 106 = .ok (.dup, 1) := by decide +kernel
theorem d_q_add_107 : decode prog_4_method_3_code 107 = .ok (.getfield 48, 3) := by decide +kernel
theorem d_q_add_110 : decode prog_4_method_3_code 110 = .ok (.iconst 1, 1) := by decide +kernel
theorem d_q_add_111 : decode prog_4_method_3_code 111 = .ok (.iadd, 1) := by decide +kernel
theorem d_q_add_112 : decode prog_4_method_3_code 112 = .ok (.putfield 48, 3) := by decide +kernel
theorem d_q_add_115 : decode prog_4_method_3_code 115 = .ok (.aload_n 0, 1) := by decide +kernel
theorem d_q_add_116 : decode prog_4_method_3_code 116 = .ok (.getfield 48, 3) := by decide +kernel
theorem d_q_add_119 : decode prog_4_method_3_code 119 = .ok (.iconst 1, 1) := by decide +kernel
theorem d_q_add_120 : decode prog_4_method_3_code 120 = .ok (.isub, 1) := by decide +kernel
theorem d_q_add_121 : decode prog_4_method_3_code 121 = .ok (.ireturn, 1) := by decide +kernel
theorem d_q_allow_0 : decode prog_4_method_4_code 0 = .ok (.aload_n 0, 1) := by decide +kernel
theorem d_q_allow_1 : decode prog_4_method_4_code 1 = .ok (.getfield 27, 3) := by decide +kernel
theorem d_q_allow_4 : decode prog_4_method_4_code 4 = .ok (.iload_n 1, 1) := by decide +kernel
theorem d_q_allow_5 : decode prog_4_method_4_code 5 = .ok (.iload_n 2, 1) := by decide +kernel
theorem d_q_allow_6 : decode prog_4_method_4_code 6 = .ok (.iastore, 1) := by decide +kernel
theorem d_q_allow_7 : decode prog_4_method_4_code 7 = .ok (.aload_n 0, 1) := by decide +kernel
theorem d_q_allow_8 : decode prog_4_method_4_code 8 = .ok (.getfield 39, 3) := by decide +kernel
theorem d_q_allow_11 : decode prog_4_method_4_code 11 = .ok (.iload_n 1, 1) := by decide +kernel
theorem d_q_allow_12 : decode prog_4_method_4_code 12 = .ok (.aload_n 0, 1) := by decide +kernel
theorem d_q_allow_13 : decode prog_4_method_4_code 13 = .ok (.getfield 24, 3) := by decide +kernel
theorem d_q_allow_16 : decode prog_4_method_4_code 16 = .ok (.iload_n 1, 1) := by decide +kernel
theorem d_q_allow_17 : decode prog_4_method_4_code 17 = .ok (.iaload, 1) := by decide +kernel
theorem d_q_allow_18 : decode prog_4_method_4_code 18 = .ok (.ldc 52, 2) := by decide +kernel
theorem d_q_allow_20 : decode prog_4_method_4_code 20 = .ok (.iadd, 1) := by decide +kernel
theorem d_q_allow_21 : decode prog_4_method_4_code 21 = .ok (.iastore, 1) := by decide +kernel
theorem d_q_allow_22 : decode prog_4_method_4_code 22 = .ok (.return_, 1) := by decide +kernel
theorem d_q_centsOf_0 : decode prog_4_method_17_code 0 = .ok (.iconst 0, 1) := by decide +kernel
theorem d_q_centsOf_1 : decode prog_4_method_17_code 1 = .ok (.istore_n 2, 1) := by decide +kernel
theorem d_q_centsOf_2 : decode prog_4_method_17_code 2 = .ok (.iconst 0, 1) := by decide +kernel
theorem d_q_centsOf_3 : decode prog_4_method_17_code 3 = .ok (.istore_n 3, 1) := by decide +kernel
theorem d_q_centsOf_4 : decode prog_4_method_17_code 4 = .ok (.iload_n 3, 1) := by decide +kernel
theorem d_q_centsOf_5 : decode prog_4_method_17_code 5 = .ok (.aload_n 0, 1) := by decide +kernel
theorem d_q_centsOf_6 : decode prog_4_method_17_code 6 = .ok (.getfield 48, 3) := by decide +kernel
theorem d_q_centsOf_9 : decode prog_4_method_17_code 9 = .ok (.if_icmp .ge 28, 3) := by decide +kernel
theorem d_q_centsOf_12 : decode prog_4_method_17_code 12 = .ok (.aload_n 0, 1) := by decide +kernel
theorem d_q_centsOf_13 : decode prog_4_method_17_code 13 = .ok (.getfield 9, 3) := by decide +kernel
theorem d_q_centsOf_16 : decode prog_4_method_17_code 16 = .ok (.iload_n 3, 1) := by decide +kernel
theorem d_q_centsOf_17 : decode prog_4_method_17_code 17 = .ok (.iaload, 1) := by decide +kernel
theorem d_q_centsOf_18 : decode prog_4_method_17_code 18 = .ok (.iload_n 1, 1) := by decide +kernel
theorem d_q_centsOf_19 : decode prog_4_method_17_code 19 = .ok (.if_icmp .ne 12, 3) := by decide +kernel
theorem d_q_centsOf_22 : decode prog_4_method_17_code 22 = .ok (.iload_n 2, 1) := by decide +kernel
theorem d_q_centsOf_23 : decode prog_4_method_17_code 23 = .ok (.aload_n 0, 1) := by decide +kernel
theorem d_q_centsOf_24 : decode prog_4_method_17_code 24 = .ok (.getfield 36, 3) := by decide +kernel
theorem d_q_centsOf_27 : decode prog_4_method_17_code 27 = .ok (.iload_n 3, 1) := by decide +kernel
theorem d_q_centsOf_28 : decode prog_4_method_17_code 28 = .ok (.iaload, 1) := by decide +kernel
theorem d_q_centsOf_29 : decode prog_4_method_17_code 29 = .ok (.iadd, 1) := by decide +kernel
theorem d_q_centsOf_30 : decode prog_4_method_17_code 30 = .ok (.istore_n 2, 1) := by decide +kernel
theorem d_q_centsOf_31 : decode prog_4_method_17_code 31 = .ok (.iinc 3 1, 3) := by decide +kernel
theorem d_q_centsOf_34 : decode prog_4_method_17_code 34 = .ok (.goto (-30), 3) := by decide +kernel
theorem d_q_centsOf_37 : decode prog_4_method_17_code 37 = .ok (.iload_n 2, 1) := by decide +kernel
theorem d_q_centsOf_38 : decode prog_4_method_17_code 38 = .ok (.ireturn, 1) := by decide +kernel
theorem d_q_charge_0 : decode prog_4_method_5_code 0 = .ok (.aload_n 0, 1) := by decide +kernel
theorem d_q_charge_1 : decode prog_4_method_5_code 1 = .ok (.getfield 33, 3) := by decide +kernel
theorem d_q_charge_4 : decode prog_4_method_5_code 4 = .ok (.iload_n 1, 1) := by decide +kernel
theorem d_q_charge_5 : decode prog_4_method_5_code 5 = .ok (.aload_n 0, 1) := by decide +kernel
theorem d_q_charge_6 : decode prog_4_method_5_code 6 = .ok (.getfield 21, 3) := by decide +kernel
theorem d_q_charge_9 : decode prog_4_method_5_code 9 = .ok (.iload_n 1, 1) := by decide +kernel
theorem d_q_charge_10 : decode prog_4_method_5_code 10 = .ok (.iaload, 1) := by decide +kernel
theorem d_q_charge_11 : decode prog_4_method_5_code 11 = .ok (.iload_n 2, 1) := by decide +kernel
theorem d_q_charge_12 : decode prog_4_method_5_code 12 = .ok (.imul, 1) := by decide +kernel
theorem d_q_charge_13 : decode prog_4_method_5_code 13 = .ok (.iastore, 1) := by decide +kernel
theorem d_q_charge_14 : decode prog_4_method_5_code 14 = .ok (.aload_n 0, 1) := by decide +kernel
theorem d_q_charge_15 : decode prog_4_method_5_code 15 = .ok (.getfield 36, 3) := by decide +kernel
theorem d_q_charge_18 : decode prog_4_method_5_code 18 = .ok (.iload_n 1, 1) := by decide +kernel
theorem d_q_charge_19 : decode prog_4_method_5_code 19 = .ok (.aload_n 0, 1) := by decide +kernel
theorem d_q_charge_20 : decode prog_4_method_5_code 20 = .ok (.getfield 33, 3) := by decide +kernel
theorem d_q_charge_23 : decode prog_4_method_5_code 23 = .ok (.iload_n 1, 1) := by decide +kernel
theorem d_q_charge_24 : decode prog_4_method_5_code 24 = .ok (.iaload, 1) := by decide +kernel
theorem d_q_charge_25 : decode prog_4_method_5_code 25 = .ok (.iastore, 1) := by decide +kernel
theorem d_q_charge_26 : decode prog_4_method_5_code 26 = .ok (.return_, 1) := by decide +kernel
theorem d_q_countInSpan_0 : decode prog_4_method_12_code 0 = .ok (.iload 4, 2) := by decide +kernel
theorem d_q_countInSpan_2 : decode prog_4_method_12_code 2 = .ok (.iload_n 3, 1) := by decide +kernel
theorem d_q_countInSpan_3 : decode prog_4_method_12_code 3 = .ok (.ldc 64, 2) := by decide +kernel
theorem d_q_countInSpan_5 : decode prog_4_method_12_code 5 = .ok (.imul, 1) := by decide +kernel
theorem d_q_countInSpan_6 : decode prog_4_method_12_code 6 = .ok (.isub, 1) := by decide +kernel
theorem d_q_countInSpan_7 : decode prog_4_method_12_code 7 = .ok (.istore 5, 2) := by decide +kernel
theorem d_q_countInSpan_9 : decode prog_4_method_12_code 9 = .ok (.iconst 0, 1) := by decide +kernel
theorem d_q_countInSpan_10 : decode prog_4_method_12_code 10 = .ok (.istore 6, 2) := by decide +kernel
theorem d_q_countInSpan_12 : decode prog_4_method_12_code 12 = .ok (.iconst 0, 1) := by decide +kernel
theorem d_q_countInSpan_13 : decode prog_4_method_12_code 13 = .ok (.istore 7, 2) := by decide +kernel
theorem d_q_countInSpan_15 : decode prog_4_method_12_code 15 = .ok (.iload 7, 2) := by decide +kernel
theorem d_q_countInSpan_17 : decode prog_4_method_12_code 17 = .ok (.aload_n 0, 1) := by decide +kernel
theorem d_q_countInSpan_18 : decode prog_4_method_12_code 18 = .ok (.getfield 48, 3) := by decide +kernel
theorem d_q_countInSpan_21 : decode prog_4_method_12_code 21 = .ok (.if_icmp .ge 60, 3) := by decide +kernel
theorem d_q_countInSpan_24 : decode prog_4_method_12_code 24 = .ok (.aload_n 0, 1) := by decide +kernel
theorem d_q_countInSpan_25 : decode prog_4_method_12_code 25 = .ok (.getfield 15, 3) := by decide +kernel
theorem d_q_countInSpan_28 : decode prog_4_method_12_code 28 = .ok (.iload 7, 2) := by decide +kernel
theorem d_q_countInSpan_30 : decode prog_4_method_12_code 30 = .ok (.iaload, 1) := by decide +kernel
theorem d_q_countInSpan_31 : decode prog_4_method_12_code 31 = .ok (.iload_n 1, 1) := by decide +kernel
theorem d_q_countInSpan_32 : decode prog_4_method_12_code 32 = .ok (.if_icmp .ne 43, 3) := by decide +kernel
theorem d_q_countInSpan_35 : decode prog_4_method_12_code 35 = .ok (.aload_n 0, 1) := by decide +kernel
theorem d_q_countInSpan_36 : decode prog_4_method_12_code 36 = .ok (.getfield 18, 3) := by decide +kernel
theorem d_q_countInSpan_39 : decode prog_4_method_12_code 39 = .ok (.iload 7, 2) := by decide +kernel
theorem d_q_countInSpan_41 : decode prog_4_method_12_code 41 = .ok (.iaload, 1) := by decide +kernel
theorem d_q_countInSpan_42 : decode prog_4_method_12_code 42 = .ok (.iload_n 2, 1) := by decide +kernel
theorem d_q_countInSpan_43 : decode prog_4_method_12_code 43 = .ok (.if_icmp .ne 32, 3) := by decide +kernel
theorem d_q_countInSpan_46 : decode prog_4_method_12_code 46 = .ok (.aload_n 0, 1) := by decide +kernel
theorem d_q_countInSpan_47 : decode prog_4_method_12_code 47 = .ok (.iload 7, 2) := by decide +kernel
theorem d_q_countInSpan_49 : decode prog_4_method_12_code 49 = .ok (.invokevirtual 65, 3) := by decide +kernel
theorem d_q_countInSpan_52 : decode prog_4_method_12_code 52 = .ok (.ifCond .eq 23, 3) := by decide +kernel
theorem d_q_countInSpan_55 : decode prog_4_method_12_code 55 = .ok (.aload_n 0, 1) := by decide +kernel
theorem d_q_countInSpan_56 : decode prog_4_method_12_code 56 = .ok (.getfield 24, 3) := by decide +kernel
theorem d_q_countInSpan_59 : decode prog_4_method_12_code 59 = .ok (.iload 7, 2) := by decide +kernel
theorem d_q_countInSpan_61 : decode prog_4_method_12_code 61 = .ok (.iaload, 1) := by decide +kernel
theorem d_q_countInSpan_62 : decode prog_4_method_12_code 62 = .ok (.iload 5, 2) := by decide +kernel
theorem d_q_countInSpan_64 : decode prog_4_method_12_code 64 = .ok (.iload 4, 2) := by decide +kernel
theorem d_q_countInSpan_66 : decode prog_4_method_12_code 66 = .ok (.invokestatic 68, 3) := by decide +kernel
theorem d_q_countInSpan_69 : decode prog_4_method_12_code 69 = .ok (.ifCond .eq 6, 3) := by decide +kernel
theorem d_q_countInSpan_72 : decode prog_4_method_12_code 72 = .ok (.iinc 6 1, 3) := by decide +kernel
theorem d_q_countInSpan_75 : decode prog_4_method_12_code 75 = .ok (.iinc 7 1, 3) := by decide +kernel
theorem d_q_countInSpan_78 : decode prog_4_method_12_code 78 = .ok (.goto (-63), 3) := by decide +kernel
theorem d_q_countInSpan_81 : decode prog_4_method_12_code 81 = .ok (.iload 6, 2) := by decide +kernel
theorem d_q_countInSpan_83 : decode prog_4_method_12_code 83 = .ok (.ireturn, 1) := by decide +kernel
theorem d_q_countOf_0 : decode prog_4_method_14_code 0 = .ok (.iconst 0, 1) := by decide +kernel
theorem d_q_countOf_1 : decode prog_4_method_14_code 1 = .ok (.istore_n 2, 1) := by decide +kernel
theorem d_q_countOf_2 : decode prog_4_method_14_code 2 = .ok (.iconst 0, 1) := by decide +kernel
theorem d_q_countOf_3 : decode prog_4_method_14_code 3 = .ok (.istore_n 3, 1) := by decide +kernel
theorem d_q_countOf_4 : decode prog_4_method_14_code 4 = .ok (.iload_n 3, 1) := by decide +kernel
theorem d_q_countOf_5 : decode prog_4_method_14_code 5 = .ok (.aload_n 0, 1) := by decide +kernel
theorem d_q_countOf_6 : decode prog_4_method_14_code 6 = .ok (.getfield 48, 3) := by decide +kernel
theorem d_q_countOf_9 : decode prog_4_method_14_code 9 = .ok (.if_icmp .ge 22, 3) := by decide +kernel
theorem d_q_countOf_12 : decode prog_4_method_14_code 12 = .ok (.aload_n 0, 1) := by decide +kernel
theorem d_q_countOf_13 : decode prog_4_method_14_code 13 = .ok (.getfield 9, 3) := by decide +kernel
theorem d_q_countOf_16 : decode prog_4_method_14_code 16 = .ok (.iload_n 3, 1) := by decide +kernel
theorem d_q_countOf_17 : decode prog_4_method_14_code 17 = .ok (.iaload, 1) := by decide +kernel
theorem d_q_countOf_18 : decode prog_4_method_14_code 18 = .ok (.iload_n 1, 1) := by decide +kernel
theorem d_q_countOf_19 : decode prog_4_method_14_code 19 = .ok (.if_icmp .ne 6, 3) := by decide +kernel
theorem d_q_countOf_22 : decode prog_4_method_14_code 22 = .ok (.iinc 2 1, 3) := by decide +kernel
theorem d_q_countOf_25 : decode prog_4_method_14_code 25 = .ok (.iinc 3 1, 3) := by decide +kernel
theorem d_q_countOf_28 : decode prog_4_method_14_code 28 = .ok (.goto (-24), 3) := by decide +kernel
theorem d_q_countOf_31 : decode prog_4_method_14_code 31 = .ok (.iload_n 2, 1) := by decide +kernel
theorem d_q_countOf_32 : decode prog_4_method_14_code 32 = .ok (.ireturn, 1) := by decide +kernel
theorem d_q_countRefusedOf_0 : decode prog_4_method_15_code 0 = .ok (.iconst 0, 1) := by decide +kernel
theorem d_q_countRefusedOf_1 : decode prog_4_method_15_code 1 = .ok (.istore_n 2, 1) := by decide +kernel
theorem d_q_countRefusedOf_2 : decode prog_4_method_15_code 2 = .ok (.iconst 0, 1) := by decide +kernel
theorem d_q_countRefusedOf_3 : decode prog_4_method_15_code 3 = .ok (.istore_n 3, 1) := by decide +kernel
theorem d_q_countRefusedOf_4 : decode prog_4_method_15_code 4 = .ok (.iload_n 3, 1) := by decide +kernel
theorem d_q_countRefusedOf_5 : decode prog_4_method_15_code 5 = .ok (.aload_n 0, 1) := by decide +kernel
theorem d_q_countRefusedOf_6 : decode prog_4_method_15_code 6 = .ok (.getfield 48, 3) := by decide +kernel
theorem d_q_countRefusedOf_9 : decode prog_4_method_15_code 9 = .ok (.if_icmp .ge 30, 3) := by decide +kernel
theorem d_q_countRefusedOf_12 : decode prog_4_method_15_code 12 = .ok (.aload_n 0, 1) := by decide +kernel
theorem d_q_countRefusedOf_13 : decode prog_4_method_15_code 13 = .ok (.getfield 9, 3) := by decide +kernel
theorem d_q_countRefusedOf_16 : decode prog_4_method_15_code 16 = .ok (.iload_n 3, 1) := by decide +kernel
theorem d_q_countRefusedOf_17 : decode prog_4_method_15_code 17 = .ok (.iaload, 1) := by decide +kernel
theorem d_q_countRefusedOf_18 : decode prog_4_method_15_code 18 = .ok (.iload_n 1, 1) := by decide +kernel
theorem d_q_countRefusedOf_19 : decode prog_4_method_15_code 19 = .ok (.if_icmp .ne 14, 3) := by decide +kernel
theorem d_q_countRefusedOf_22 : decode prog_4_method_15_code 22 = .ok (.aload_n 0, 1) := by decide +kernel
theorem d_q_countRefusedOf_23 : decode prog_4_method_15_code 23 = .ok (.iload_n 3, 1) := by decide +kernel
theorem d_q_countRefusedOf_24 : decode prog_4_method_15_code 24 = .ok (.invokevirtual 53, 3) := by decide +kernel
theorem d_q_countRefusedOf_27 : decode prog_4_method_15_code 27 = .ok (.ifCond .ne 6, 3) := by decide +kernel
theorem d_q_countRefusedOf_30 : decode prog_4_method_15_code 30 = .ok (.iinc 2 1, 3) := by decide +kernel
theorem d_q_countRefusedOf_33 : decode prog_4_method_15_code 33 = .ok (.iinc 3 1, 3) := by decide +kernel
theorem d_q_countRefusedOf_36 : decode prog_4_method_15_code 36 = .ok (.goto (-32), 3) := by decide +kernel
theorem d_q_countRefusedOf_39 : decode prog_4_method_15_code 39 = .ok (.iload_n 2, 1) := by decide +kernel
theorem d_q_countRefusedOf_40 : decode prog_4_method_15_code 40 = .ok (.ireturn, 1) := by decide +kernel
theorem d_q_countsForLimits_0 : decode prog_4_method_11_code 0 = .ok (.aload_n 0, 1) := by decide +kernel
theorem d_q_countsForLimits_1 : decode prog_4_method_11_code 1 = .ok (.getfield 27, 3) := by decide +kernel
theorem d_q_countsForLimits_4 : decode prog_4_method_11_code 4 = .ok (.iload_n 1, 1) := by decide +kernel
theorem d_q_countsForLimits_5 : decode prog_4_method_11_code 5 = .ok (.iaload, 1) := by decide +kernel
theorem d_q_countsForLimits_6 : decode prog_4_method_11_code 6 = .ok (.istore_n 2, 1) := by decide +kernel
theorem d_q_countsForLimits_7 : decode prog_4_method_11_code 7 = .ok (.iload_n 2, 1) := by decide +kernel
theorem d_q_countsForLimits_8 : decode prog_4_method_11_code 8 = .ok (.iconst 3, 1) := by decide +kernel
theorem d_q_countsForLimits_9 : decode prog_4_method_11_code 9 = .ok (.if_icmp .eq 13, 3) := by decide +kernel
theorem d_q_countsForLimits_12 : decode prog_4_method_11_code 12 = .ok (.iload_n 2, 1) := by decide +kernel
theorem d_q_countsForLimits_13 : decode prog_4_method_11_code 13 = .ok (.iconst 4, 1) := by decide +kernel
theorem d_q_countsForLimits_14 : decode prog_4_method_11_code 14 = .ok (.if_icmp .eq 8, 3) := by decide +kernel
theorem d_q_countsForLimits_17 : decode prog_4_method_11_code 17 = .ok (.iload_n 2, 1) := by decide +kernel
theorem d_q_countsForLimits_18 : decode prog_4_method_11_code 18 = .ok (.iconst 5, 1) := by decide +kernel
theorem d_q_countsForLimits_19 : decode prog_4_method_11_code 19 = .ok (.if_icmp .ne 7, 3) := by decide +kernel
theorem d_q_countsForLimits_22 : decode prog_4_method_11_code 22 = .ok (.iconst 1, 1) := by decide +kernel
theorem d_q_countsForLimits_23 : decode prog_4_method_11_code 23 = .ok (.goto 4, 3) := by decide +kernel
theorem d_q_countsForLimits_26 : decode prog_4_method_11_code 26 = .ok (.iconst 0, 1) := by decide +kernel
theorem d_q_countsForLimits_27 : decode prog_4_method_11_code 27 = .ok (.ireturn, 1) := by decide +kernel
theorem d_q_endedAt_0 : decode prog_4_method_13_code 0 = .ok (.iconst 0, 1) := by decide +kernel
theorem d_q_endedAt_1 : decode prog_4_method_13_code 1 = .ok (.istore_n 3, 1) := by decide +kernel
theorem d_q_endedAt_2 : decode prog_4_method_13_code 2 = .ok (.iconst 0, 1) := by decide +kernel
theorem d_q_endedAt_3 : decode prog_4_method_13_code 3 = .ok (.istore 4, 2) := by decide +kernel
theorem d_q_endedAt_5 : decode prog_4_method_13_code 5 = .ok (.iload 4, 2) := by decide +kernel
theorem d_q_endedAt_7 : decode prog_4_method_13_code 7 = .ok (.aload_n 0, 1) := by decide +kernel
theorem d_q_endedAt_8 : decode prog_4_method_13_code 8 = .ok (.getfield 48, 3) := by decide +kernel
theorem d_q_endedAt_11 : decode prog_4_method_13_code 11 = .ok (.if_icmp .ge 39, 3) := by decide +kernel
theorem d_q_endedAt_14 : decode prog_4_method_13_code 14 = .ok (.aload_n 0, 1) := by decide +kernel
theorem d_q_endedAt_15 : decode prog_4_method_13_code 15 = .ok (.iload 4, 2) := by decide +kernel
theorem d_q_endedAt_17 : decode prog_4_method_13_code 17 = .ok (.invokevirtual 57, 3) := by decide +kernel
theorem d_q_endedAt_20 : decode prog_4_method_13_code 20 = .ok (.ifCond .eq 24, 3) := by decide +kernel
theorem d_q_endedAt_23 : decode prog_4_method_13_code 23 = .ok (.aload_n 0, 1) := by decide +kernel
theorem d_q_endedAt_24 : decode prog_4_method_13_code 24 = .ok (.iload 4, 2) := by decide +kernel
theorem d_q_endedAt_26 : decode prog_4_method_13_code 26 = .ok (.iload_n 1, 1) := by decide +kernel
theorem d_q_endedAt_27 : decode prog_4_method_13_code 27 = .ok (.invokevirtual 60, 3) := by decide +kernel
theorem d_q_endedAt_30 : decode prog_4_method_13_code 30 = .ok (.ifCond .eq 14, 3) := by decide +kernel
theorem d_q_endedAt_33 : decode prog_4_method_13_code 33 = .ok (.iload_n 3, 1) := by decide +kernel
theorem d_q_endedAt_34 : decode prog_4_method_13_code 34 = .ok (.iload_n 2, 1) := by decide +kernel
theorem d_q_endedAt_35 : decode prog_4_method_13_code 35 = .ok (.if_icmp .ne 6, 3) := by decide +kernel
theorem d_q_endedAt_38 : decode prog_4_method_13_code 38 = .ok (.iload 4, 2) := by decide +kernel
theorem d_q_endedAt_40 : decode prog_4_method_13_code 40 = .ok (.ireturn, 1) := by decide +kernel
theorem d_q_endedAt_41 : decode prog_4_method_13_code 41 = .ok (.iinc 3 1, 3) := by decide +kernel
theorem d_q_endedAt_44 : decode prog_4_method_13_code 44 = .ok (.iinc 4 1, 3) := by decide +kernel
theorem d_q_endedAt_47 : decode prog_4_method_13_code 47 = .ok (.goto (-42), 3) := by decide +kernel
theorem d_q_endedAt_50 : decode prog_4_method_13_code 50 = .ok (.iconst (-1), 1) := by decide +kernel
theorem d_q_endedAt_51 : decode prog_4_method_13_code 51 = .ok (.ireturn, 1) := by decide +kernel
theorem d_q_has_0 : decode prog_4_method_2_code 0 = .ok (.iload_n 1, 1) := by decide +kernel
theorem d_q_has_1 : decode prog_4_method_2_code 1 = .ok (.ifCond .lt 15, 3) := by decide +kernel
theorem d_q_has_4 : decode prog_4_method_2_code 4 = .ok (.iload_n 1, 1) := by decide +kernel
theorem d_q_has_5 : decode prog_4_method_2_code 5 = .ok (.aload_n 0, 1) := by decide +kernel
theorem d_q_has_6 : decode prog_4_method_2_code 6 = .ok (.getfield 48, 3) := by decide +kernel
theorem d_q_has_9 : decode prog_4_method_2_code 9 = .ok (.if_icmp .ge 7, 3) := by decide +kernel
theorem d_q_has_12 : decode prog_4_method_2_code 12 = .ok (.iconst 1, 1) := by decide +kernel
theorem d_q_has_13 : decode prog_4_method_2_code 13 = .ok (.goto 4, 3) := by decide +kernel
theorem d_q_has_16 : decode prog_4_method_2_code 16 = .ok (.iconst 0, 1) := by decide +kernel
theorem d_q_has_17 : decode prog_4_method_2_code 17 = .ok (.ireturn, 1) := by decide +kernel
theorem d_q_hasEnded_0 : decode prog_4_method_9_code 0 = .ok (.iload_n 2, 1) := by decide +kernel
theorem d_q_hasEnded_1 : decode prog_4_method_9_code 1 = .ok (.aload_n 0, 1) := by decide +kernel
theorem d_q_hasEnded_2 : decode prog_4_method_9_code 2 = .ok (.getfield 39, 3) := by decide +kernel
theorem d_q_hasEnded_5 : decode prog_4_method_9_code 5 = .ok (.iload_n 1, 1) := by decide +kernel
theorem d_q_hasEnded_6 : decode prog_4_method_9_code 6 = .ok (.iaload, 1) := by decide +kernel
theorem d_q_hasEnded_7 : decode prog_4_method_9_code 7 = .ok (.if_icmp .lt 7, 3) := by decide +kernel
theorem d_q_hasEnded_10 : decode prog_4_method_9_code 10 = .ok (.iconst 1, 1) := by decide +kernel
theorem d_q_hasEnded_11 : decode prog_4_method_9_code 11 = .ok (.goto 4, 3) := by decide +kernel
theorem d_q_hasEnded_14 : decode prog_4_method_9_code 14 = .ok (.iconst 0, 1) := by decide +kernel
theorem d_q_hasEnded_15 : decode prog_4_method_9_code 15 = .ok (.ireturn, 1) := by decide +kernel
theorem d_q_isCopy_0 : decode prog_4_method_7_code 0 = .ok (.aload_n 0, 1) := by decide +kernel
theorem d_q_isCopy_1 : decode prog_4_method_7_code 1 = .ok (.getfield 27, 3) := by decide +kernel
theorem d_q_isCopy_4 : decode prog_4_method_7_code 4 = .ok (.iload_n 1, 1) := by decide +kernel
theorem d_q_isCopy_5 : decode prog_4_method_7_code 5 = .ok (.iaload, 1) := by decide +kernel
theorem d_q_isCopy_6 : decode prog_4_method_7_code 6 = .ok (.ifCond .eq 7, 3) := by decide +kernel
theorem d_q_isCopy_9 : decode prog_4_method_7_code 9 = .ok (.iconst 1, 1) := by decide +kernel
theorem d_q_isCopy_10 : decode prog_4_method_7_code 10 = .ok (.goto 4, 3) := by decide +kernel
theorem d_q_isCopy_13 : decode prog_4_method_7_code 13 = .ok (.iconst 0, 1) := by decide +kernel
theorem d_q_isCopy_14 : decode prog_4_method_7_code 14 = .ok (.ireturn, 1) := by decide +kernel
theorem d_q_isKept_0 : decode prog_4_method_8_code 0 = .ok (.aload_n 0, 1) := by decide +kernel
theorem d_q_isKept_1 : decode prog_4_method_8_code 1 = .ok (.iload_n 1, 1) := by decide +kernel
theorem d_q_isKept_2 : decode prog_4_method_8_code 2 = .ok (.invokevirtual 53, 3) := by decide +kernel
theorem d_q_isKept_5 : decode prog_4_method_8_code 5 = .ok (.ifCond .eq 17, 3) := by decide +kernel
theorem d_q_isKept_8 : decode prog_4_method_8_code 8 = .ok (.aload_n 0, 1) := by decide +kernel
theorem d_q_isKept_9 : decode prog_4_method_8_code 9 = .ok (.getfield 45, 3) := by decide +kernel
theorem d_q_isKept_12 : decode prog_4_method_8_code 12 = .ok (.iload_n 1, 1) := by decide +kernel
theorem d_q_isKept_13 : decode prog_4_method_8_code 13 = .ok (.iaload, 1) := by decide +kernel
theorem d_q_isKept_14 : decode prog_4_method_8_code 14 = .ok (.iconst (-1), 1) := by decide +kernel
theorem d_q_isKept_15 : decode prog_4_method_8_code 15 = .ok (.if_icmp .ne 7, 3) := by decide +kernel
theorem d_q_isKept_18 : decode prog_4_method_8_code 18 = .ok (.iconst 1, 1) := by decide +kernel
theorem d_q_isKept_19 : decode prog_4_method_8_code 19 = .ok (.goto 4, 3) := by decide +kernel
theorem d_q_isKept_22 : decode prog_4_method_8_code 22 = .ok (.iconst 0, 1) := by decide +kernel
theorem d_q_isKept_23 : decode prog_4_method_8_code 23 = .ok (.ireturn, 1) := by decide +kernel
theorem d_q_isRenewable_0 : decode prog_4_method_10_code 0 = .ok (.aload_n 0, 1) := by decide +kernel
theorem d_q_isRenewable_1 : decode prog_4_method_10_code 1 = .ok (.iload_n 1, 1) := by decide +kernel
theorem d_q_isRenewable_2 : decode prog_4_method_10_code 2 = .ok (.invokevirtual 57, 3) := by decide +kernel
theorem d_q_isRenewable_5 : decode prog_4_method_10_code 5 = .ok (.ifCond .eq 26, 3) := by decide +kernel
theorem d_q_isRenewable_8 : decode prog_4_method_10_code 8 = .ok (.aload_n 0, 1) := by decide +kernel
theorem d_q_isRenewable_9 : decode prog_4_method_10_code 9 = .ok (.getfield 42, 3) := by decide +kernel
theorem d_q_isRenewable_12 : decode prog_4_method_10_code 12 = .ok (.iload_n 1, 1) := by decide +kernel
theorem d_q_isRenewable_13 : decode prog_4_method_10_code 13 = .ok (.iaload, 1) := by decide +kernel
theorem d_q_isRenewable_14 : decode prog_4_method_10_code 14 = .ok (.iconst 2, 1) := by decide +kernel
theorem d_q_isRenewable_15 : decode prog_4_method_10_code 15 = .ok (.if_icmp .ge 16, 3) := by decide +kernel
theorem d_q_isRenewable_18 : decode prog_4_method_10_code 18 = .ok (.aload_n 0, 1) := by decide +kernel
theorem d_q_isRenewable_19 : decode prog_4_method_10_code 19 = .ok (.iload_n 1, 1) := by decide +kernel
theorem d_q_isRenewable_20 : decode prog_4_method_10_code 20 = .ok (.iload_n 2, 1) := by decide +kernel
theorem d_q_isRenewable_21 : decode prog_4_method_10_code 21 = .ok (.invokevirtual 60, 3) := by decide +kernel
theorem d_q_isRenewable_24 : decode prog_4_method_10_code 24 = .ok (.ifCond .ne 7, 3) := by decide +kernel
theorem d_q_isRenewable_27 : decode prog_4_method_10_code 27 = .ok (.iconst 1, 1) := by decide +kernel
theorem d_q_isRenewable_28 : decode prog_4_method_10_code 28 = .ok (.goto 4, 3) := by decide +kernel
theorem d_q_isRenewable_31 : decode prog_4_method_10_code 31 = .ok (.iconst 0, 1) := by decide +kernel
theorem d_q_isRenewable_32 : decode prog_4_method_10_code 32 = .ok (.ireturn, 1) := by decide +kernel
theorem d_q_pagesAllowedTo_0 : decode prog_4_method_16_code 0 = .ok (.iconst 0, 1) := by decide +kernel
theorem d_q_pagesAllowedTo_1 : decode prog_4_method_16_code 1 = .ok (.istore_n 2, 1) := by decide +kernel
theorem d_q_pagesAllowedTo_2 : decode prog_4_method_16_code 2 = .ok (.iconst 0, 1) := by decide +kernel
theorem d_q_pagesAllowedTo_3 : decode prog_4_method_16_code 3 = .ok (.istore_n 3, 1) := by decide +kernel
theorem d_q_pagesAllowedTo_4 : decode prog_4_method_16_code 4 = .ok (.iload_n 3, 1) := by decide +kernel
theorem d_q_pagesAllowedTo_5 : decode prog_4_method_16_code 5 = .ok (.aload_n 0, 1) := by decide +kernel
theorem d_q_pagesAllowedTo_6 : decode prog_4_method_16_code 6 = .ok (.getfield 48, 3) := by decide +kernel
theorem d_q_pagesAllowedTo_9 : decode prog_4_method_16_code 9 = .ok (.if_icmp .ge 36, 3) := by decide +kernel
theorem d_q_pagesAllowedTo_12 : decode prog_4_method_16_code 12 = .ok (.aload_n 0, 1) := by decide +kernel
theorem d_q_pagesAllowedTo_13 : decode prog_4_method_16_code 13 = .ok (.getfield 9, 3) := by decide +kernel
theorem d_q_pagesAllowedTo_16 : decode prog_4_method_16_code 16 = .ok (.iload_n 3, 1) := by decide +kernel
theorem d_q_pagesAllowedTo_17 : decode prog_4_method_16_code 17 = .ok (.iaload, 1) := by decide +kernel
theorem d_q_pagesAllowedTo_18 : decode prog_4_method_16_code 18 = .ok (.iload_n 1, 1) := by decide +kernel
theorem d_q_pagesAllowedTo_19 : decode prog_4_method_16_code 19 = .ok (.if_icmp .ne 20, 3) := by decide +kernel
theorem d_q_pagesAllowedTo_22 : decode prog_4_method_16_code 22 = .ok (.aload_n 0, 1) := by decide +kernel
theorem d_q_pagesAllowedTo_23 : decode prog_4_method_16_code 23 = .ok (.iload_n 3, 1) := by decide +kernel
theorem d_q_pagesAllowedTo_24 : decode prog_4_method_16_code 24 = .ok (.invokevirtual 53, 3) := by decide +kernel
theorem d_q_pagesAllowedTo_27 : decode prog_4_method_16_code 27 = .ok (.ifCond .eq 12, 3) := by decide +kernel
theorem d_q_pagesAllowedTo_30 : decode prog_4_method_16_code 30 = .ok (.iload_n 2, 1) := by decide +kernel
theorem d_q_pagesAllowedTo_31 : decode prog_4_method_16_code 31 = .ok (.aload_n 0, 1) := by decide +kernel
theorem d_q_pagesAllowedTo_32 : decode prog_4_method_16_code 32 = .ok (.getfield 21, 3) := by decide +kernel
theorem d_q_pagesAllowedTo_35 : decode prog_4_method_16_code 35 = .ok (.iload_n 3, 1) := by decide +kernel
theorem d_q_pagesAllowedTo_36 : decode prog_4_method_16_code 36 = .ok (.iaload, 1) := by decide +kernel
theorem d_q_pagesAllowedTo_37 : decode prog_4_method_16_code 37 = .ok (.iadd, 1) := by decide +kernel
theorem d_q_pagesAllowedTo_38 : decode prog_4_method_16_code 38 = .ok (.istore_n 2, 1) := by decide +kernel
theorem d_q_pagesAllowedTo_39 : decode prog_4_method_16_code 39 = .ok (.iinc 3 1, 3) := by decide +kernel
theorem d_q_pagesAllowedTo_42 : decode prog_4_method_16_code 42 = .ok (.goto (-38), 3) := by decide +kernel
theorem d_q_pagesAllowedTo_45 : decode prog_4_method_16_code 45 = .ok (.iload_n 2, 1) := by decide +kernel
theorem d_q_pagesAllowedTo_46 : decode prog_4_method_16_code 46 = .ok (.ireturn, 1) := by decide +kernel
theorem d_q_prolong_0 : decode prog_4_method_6_code 0 = .ok (.aload_n 0, 1) := by decide +kernel
theorem d_q_prolong_1 : decode prog_4_method_6_code 1 = .ok (.getfield 42, 3) := by decide +kernel
theorem d_q_prolong_4 : decode prog_4_method_6_code 4 = .ok (.iload_n 1, 1) := by decide +kernel
theorem d_q_prolong_5 : decode prog_4_method_6_code 5 = .ok (.dup2, 1) := by decide +kernel
theorem d_q_prolong_6 : decode prog_4_method_6_code 6 = .ok (.iaload, 1) := by decide +kernel
theorem d_q_prolong_7 : decode prog_4_method_6_code 7 = .ok (.iconst 1, 1) := by decide +kernel
theorem d_q_prolong_8 : decode prog_4_method_6_code 8 = .ok (.iadd, 1) := by decide +kernel
theorem d_q_prolong_9 : decode prog_4_method_6_code 9 = .ok (.iastore, 1) := by decide +kernel
theorem d_q_prolong_10 : decode prog_4_method_6_code 10 = .ok (.aload_n 0, 1) := by decide +kernel
theorem d_q_prolong_11 : decode prog_4_method_6_code 11 = .ok (.getfield 36, 3) := by decide +kernel
theorem d_q_prolong_14 : decode prog_4_method_6_code 14 = .ok (.iload_n 1, 1) := by decide +kernel
theorem d_q_prolong_15 : decode prog_4_method_6_code 15 = .ok (.dup2, 1) := by decide +kernel
theorem d_q_prolong_16 : decode prog_4_method_6_code 16 = .ok (.iaload, 1) := by decide +kernel
theorem d_q_prolong_17 : decode prog_4_method_6_code 17 = .ok (.aload_n 0, 1) := by decide +kernel
theorem d_q_prolong_18 : decode prog_4_method_6_code 18 = .ok (.getfield 33, 3) := by decide +kernel
theorem d_q_prolong_21 : decode prog_4_method_6_code 21 = .ok (.iload_n 1, 1) := by decide +kernel
theorem d_q_prolong_22 : decode prog_4_method_6_code 22 = .ok (.iaload, 1) := by decide +kernel
theorem d_q_prolong_23 : decode prog_4_method_6_code 23 = .ok (.iadd, 1) := by decide +kernel
theorem d_q_prolong_24 : decode prog_4_method_6_code 24 = .ok (.iastore, 1) := by decide +kernel
theorem d_q_prolong_25 : decode prog_4_method_6_code 25 = .ok (.aload_n 0, 1) := by decide +kernel
theorem d_q_prolong_26 : decode prog_4_method_6_code 26 = .ok (.getfield 39, 3) := by decide +kernel
theorem d_q_prolong_29 : decode prog_4_method_6_code 29 = .ok (.iload_n 1, 1) := by decide +kernel
theorem d_q_prolong_30 : decode prog_4_method_6_code 30 = .ok (.dup2, 1) := by decide +kernel
theorem d_q_prolong_31 : decode prog_4_method_6_code 31 = .ok (.iaload, 1) := by decide +kernel
theorem d_q_prolong_32 : decode prog_4_method_6_code 32 = .ok (.ldc 52, 2) := by decide +kernel
theorem d_q_prolong_34 : decode prog_4_method_6_code 34 = .ok (.iadd, 1) := by decide +kernel
theorem d_q_prolong_35 : decode prog_4_method_6_code 35 = .ok (.iastore, 1) := by decide +kernel
theorem d_q_prolong_36 : decode prog_4_method_6_code 36 = .ok (.aload_n 0, 1) := by decide +kernel
theorem d_q_prolong_37 : decode prog_4_method_6_code 37 = .ok (.getfield 39, 3) := by decide +kernel
theorem d_q_prolong_40 : decode prog_4_method_6_code 40 = .ok (.iload_n 1, 1) := by decide +kernel
theorem d_q_prolong_41 : decode prog_4_method_6_code 41 = .ok (.iaload, 1) := by decide +kernel
theorem d_q_prolong_42 : decode prog_4_method_6_code 42 = .ok (.ireturn, 1) := by decide +kernel
theorem d_t_init_0 : decode prog_5_method_1_code 0 = .ok (.aload_n 0, 1) := by decide +kernel
theorem d_t_init_1 : decode prog_5_method_1_code 1 = .ok (.invokespecial 3, 3) := by decide +kernel
theorem d_t_init_4 : decode prog_5_method_1_code 4 = .ok (.aload_n 0, 1) := by decide +kernel
theorem d_t_init_5 : decode prog_5_method_1_code 5 = .ok (.bipush 50, 2) := by decide +kernel
theorem d_t_init_7 : decode prog_5_method_1_code 7 = .ok (.newarray .int, 2) := by decide +kernel
theorem d_t_init_9 : decode prog_5_method_1_code 9 = .ok (.putfield 9, 3) := by decide +kernel
theorem d_t_init_12 : decode prog_5_method_1_code 12 = .ok (.aload_n 0, 1) := by decide +kernel
theorem d_t_init_13 : decode prog_5_method_1_code 13 = .ok (.bipush 50, 2) := by decide +kernel
theorem d_t_init_15 : decode prog_5_method_1_code 15 = .ok (.newarray .boolean, 2) := by decide +kernel
theorem d_t_init_17 : decode prog_5_method_1_code 17 = .ok (.putfield 15, 3) := by decide +kernel
theorem d_t_init_20 : decode prog_5_method_1_code 20 = .ok (.aload_n 0, 1) := by decide +kernel
theorem d_t_init_21 : decode prog_5_method_1_code 21 = .ok (.bipush 50, 2) := by decide +kernel
theorem d_t_init_23 : decode prog_5_method_1_code 23 = .ok (.newarray .int, 2) := by decide +kernel
theorem d_t_init_25 : decode prog_5_method_1_code 25 = .ok (.putfield 19, 3) := by decide +kernel
theorem d_t_init_28 : decode prog_5_method_1_code 28 = .ok (.aload_n 0, 1) := by decide +kernel
theorem d_t_init_29 : decode prog_5_method_1_code 29 = .ok (.bipush 50, 2) := by decide +kernel
theorem d_t_init_31 : decode prog_5_method_1_code 31 = .ok (.newarray .int, 2) := by decide +kernel
theorem d_t_init_33 : decode prog_5_method_1_code 33 = .ok (.putfield 22, 3) := by decide +kernel
theorem d_t_init_36 : decode prog_5_method_1_code 36 = .ok (.aload_n 0, 1) := by decide +kernel
theorem d_t_init_37 : decode prog_5_method_1_code 37 = .ok (.iconst 0, 1) := by decide +kernel
theorem d_t_init_38 : decode prog_5_method_1_code 38 = .ok (.putfield 25, 3) := by decide +kernel
theorem d_t_init_41 : decode prog_5_method_1_code 41 = .ok (.return_, 1) := by decide +kernel
theorem d_t_add_0 : decode prog_5_method_3_code 0 = .ok (.aload_n 0, 1) := by decide +kernel
theorem d_t_add_1 : decode prog_5_method_3_code 1 = .ok (.getfield 25, 3) := by decide +kernel
theorem d_t_add_4 : decode prog_5_method_3_code 4 = .ok (.bipush 50, 2) := by decide +kernel
theorem d_t_add_6 : decode prog_5_method_3_code 6 = .ok (.if_icmp .lt 6, 3) := by decide +kernel
theorem d_t_add_9 : decode prog_5_method_3_code 9 = .ok (.bipush (-4), 2) := by decide +kernel
theorem d_t_add_11 : decode prog_5_method_3_code 11 = .ok (.ireturn, 1) := by decide +kernel
theorem d_t_add_12 : decode prog_5_method_3_code 12 = .ok (.aload_n 0, 1) := by decide +kernel
theorem d_t_add_13 : decode prog_5_method_3_code 13 = .ok (.getfield 9, 3) := by decide +kernel
theorem d_t_add_16 : decode prog_5_method_3_code 16 = .ok (.aload_n 0, 1) := by decide +kernel
theorem d_t_add_17 : decode prog_5_method_3_code 17 = .ok (.getfield 25, 3) := by decide +kernel
theorem d_t_add_20 : decode prog_5_method_3_code 20 = .ok (.iload_n 1, 1) := by decide +kernel
theorem d_t_add_21 : decode prog_5_method_3_code 21 = .ok (.iastore, 1) := by decide +kernel
theorem d_t_add_22 : decode prog_5_method_3_code 22 = .ok (.aload_n 0, 1) := by decide +kernel
theorem d_t_add_23 : decode prog_5_method_3_code 23 = .ok (.dup, 1) := by decide +kernel
theorem d_t_add_24 : decode prog_5_method_3_code 24 = .ok (.getfield 25, 3) := by decide +kernel
theorem d_t_add_27 : decode prog_5_method_3_code 27 = .ok (.iconst 1, 1) := by decide +kernel
theorem d_t_add_28 : decode prog_5_method_3_code 28 = .ok (.iadd, 1) := by decide +kernel
theorem d_t_add_29 : decode prog_5_method_3_code 29 = .ok (.putfield 25, 3) := by decide +kernel
theorem d_t_add_32 : decode prog_5_method_3_code 32 = .ok (.aload_n 0, 1) := by decide +kernel
theorem d_t_add_33 : decode prog_5_method_3_code 33 = .ok (.getfield 25, 3) := by decide +kernel
theorem d_t_add_36 : decode prog_5_method_3_code 36 = .ok (.iconst 1, 1) := by decide +kernel
theorem d_t_add_37 : decode prog_5_method_3_code 37 = .ok (.isub, 1) := by decide +kernel
theorem d_t_add_38 : decode prog_5_method_3_code 38 = .ok (.ireturn, 1) := by decide +kernel
theorem d_t_has_0 : decode prog_5_method_2_code 0 = .ok (.iload_n 1, 1) := by decide +kernel
theorem d_t_has_1 : decode prog_5_method_2_code 1 = .ok (.ifCond .lt 15, 3) := by decide +kernel
theorem d_t_has_4 : decode prog_5_method_2_code 4 = .ok (.iload_n 1, 1) := by decide +kernel
theorem d_t_has_5 : decode prog_5_method_2_code 5 = .ok (.aload_n 0, 1) := by decide +kernel
theorem d_t_has_6 : decode prog_5_method_2_code 6 = .ok (.getfield 25, 3) := by decide +kernel
theorem d_t_has_9 : decode prog_5_method_2_code 9 = .ok (.if_icmp .ge 7, 3) := by decide +kernel
theorem d_t_has_12 : decode prog_5_method_2_code 12 = .ok (.iconst 1, 1) := by decide +kernel
theorem d_t_has_13 : decode prog_5_method_2_code 13 = .ok (.goto 4, 3) := by decide +kernel
theorem d_t_has_16 : decode prog_5_method_2_code 16 = .ok (.iconst 0, 1) := by decide +kernel
theorem d_t_has_17 : decode prog_5_method_2_code 17 = .ok (.ireturn, 1) := by decide +kernel
