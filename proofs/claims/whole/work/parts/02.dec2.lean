theorem dX5_shift_90 : decode cX5_shift 90 = .ok (.ifCond .ne 7, 3) := by decide +kernel
theorem dX5_shift_93 : decode cX5_shift 93 = .ok (.iload_n 2, 1) := by decide +kernel
theorem dX5_shift_94 : decode cX5_shift 94 = .ok (.goto 4, 3) := by decide +kernel
theorem dX5_shift_97 : decode cX5_shift 97 = .ok (.iload_n 3, 1) := by decide +kernel
theorem dX5_shift_98 : decode cX5_shift 98 = .ok (.ireturn, 1) := by decide +kernel
theorem dX5_odds_0 : decode cX5_odds 0 = .ok (.iload_n 1, 1) := by decide +kernel
theorem dX5_odds_1 : decode cX5_odds 1 = .ok (.ifCond .lt 26, 3) := by decide +kernel
theorem dX5_odds_4 : decode cX5_odds 4 = .ok (.iload_n 1, 1) := by decide +kernel
theorem dX5_odds_5 : decode cX5_odds 5 = .ok (.bipush 10, 2) := by decide +kernel
theorem dX5_odds_7 : decode cX5_odds 7 = .ok (.if_icmp .gt 20, 3) := by decide +kernel
theorem dX5_odds_10 : decode cX5_odds 10 = .ok (.iload_n 2, 1) := by decide +kernel
theorem dX5_odds_11 : decode cX5_odds 11 = .ok (.ifCond .lt 16, 3) := by decide +kernel
theorem dX5_odds_14 : decode cX5_odds 14 = .ok (.iload_n 2, 1) := by decide +kernel
theorem dX5_odds_15 : decode cX5_odds 15 = .ok (.bipush 7, 2) := by decide +kernel
theorem dX5_odds_17 : decode cX5_odds 17 = .ok (.if_icmp .gt 10, 3) := by decide +kernel
theorem dX5_odds_20 : decode cX5_odds 20 = .ok (.iload_n 3, 1) := by decide +kernel
theorem dX5_odds_21 : decode cX5_odds 21 = .ok (.invokestatic 171, 3) := by decide +kernel
theorem dX5_odds_24 : decode cX5_odds 24 = .ok (.ifCond .ne 5, 3) := by decide +kernel
theorem dX5_odds_27 : decode cX5_odds 27 = .ok (.iconst (-1), 1) := by decide +kernel
theorem dX5_odds_28 : decode cX5_odds 28 = .ok (.ireturn, 1) := by decide +kernel
theorem dX5_odds_29 : decode cX5_odds 29 = .ok (.aload_n 0, 1) := by decide +kernel
theorem dX5_odds_30 : decode cX5_odds 30 = .ok (.getfield 19, 3) := by decide +kernel
theorem dX5_odds_33 : decode cX5_odds 33 = .ok (.invokevirtual 154, 3) := by decide +kernel
theorem dX5_odds_36 : decode cX5_odds 36 = .ok (.aload_n 0, 1) := by decide +kernel
theorem dX5_odds_37 : decode cX5_odds 37 = .ok (.getfield 29, 3) := by decide +kernel
theorem dX5_odds_40 : decode cX5_odds 40 = .ok (.getfield 96, 3) := by decide +kernel
theorem dX5_odds_43 : decode cX5_odds 43 = .ok (.iconst (-1), 1) := by decide +kernel
theorem dX5_odds_44 : decode cX5_odds 44 = .ok (.ixor, 1) := by decide +kernel
theorem dX5_odds_45 : decode cX5_odds 45 = .ok (.iand, 1) := by decide +kernel
theorem dX5_odds_46 : decode cX5_odds 46 = .ok (.invokestatic 135, 3) := by decide +kernel
theorem dX5_odds_49 : decode cX5_odds 49 = .ok (.istore 4, 2) := by decide +kernel
theorem dX5_odds_51 : decode cX5_odds 51 = .ok (.iconst 0, 1) := by decide +kernel
theorem dX5_odds_52 : decode cX5_odds 52 = .ok (.istore 5, 2) := by decide +kernel
theorem dX5_odds_54 : decode cX5_odds 54 = .ok (.iconst 0, 1) := by decide +kernel
theorem dX5_odds_55 : decode cX5_odds 55 = .ok (.istore 6, 2) := by decide +kernel
theorem dX5_odds_57 : decode cX5_odds 57 = .ok (.iload 6, 2) := by decide +kernel
theorem dX5_odds_59 : decode cX5_odds 59 = .ok (.iconst 1, 1) := by decide +kernel
theorem dX5_odds_60 : decode cX5_odds 60 = .ok (.iload 4, 2) := by decide +kernel
theorem dX5_odds_62 : decode cX5_odds 62 = .ok (.ishl, 1) := by decide +kernel
theorem dX5_odds_63 : decode cX5_odds 63 = .ok (.if_icmp .ge 46, 3) := by decide +kernel
theorem dX5_odds_66 : decode cX5_odds 66 = .ok (.iload 6, 2) := by decide +kernel
theorem dX5_odds_68 : decode cX5_odds 68 = .ok (.invokestatic 135, 3) := by decide +kernel
theorem dX5_odds_71 : decode cX5_odds 71 = .ok (.istore 7, 2) := by decide +kernel
theorem dX5_odds_73 : decode cX5_odds 73 = .ok (.iload 7, 2) := by decide +kernel
theorem dX5_odds_75 : decode cX5_odds 75 = .ok (.iload_n 2, 1) := by decide +kernel
theorem dX5_odds_76 : decode cX5_odds 76 = .ok (.if_icmp .gt 27, 3) := by decide +kernel
theorem dX5_odds_79 : decode cX5_odds 79 = .ok (.iload 5, 2) := by decide +kernel
theorem dX5_odds_81 : decode cX5_odds 81 = .ok (.iload_n 1, 1) := by decide +kernel
theorem dX5_odds_82 : decode cX5_odds 82 = .ok (.iload 7, 2) := by decide +kernel
theorem dX5_odds_84 : decode cX5_odds 84 = .ok (.invokestatic 193, 3) := by decide +kernel
theorem dX5_odds_87 : decode cX5_odds 87 = .ok (.bipush 10, 2) := by decide +kernel
theorem dX5_odds_89 : decode cX5_odds 89 = .ok (.iload_n 1, 1) := by decide +kernel
theorem dX5_odds_90 : decode cX5_odds 90 = .ok (.isub, 1) := by decide +kernel
theorem dX5_odds_91 : decode cX5_odds 91 = .ok (.iload 4, 2) := by decide +kernel
theorem dX5_odds_93 : decode cX5_odds 93 = .ok (.iload 7, 2) := by decide +kernel
theorem dX5_odds_95 : decode cX5_odds 95 = .ok (.isub, 1) := by decide +kernel
theorem dX5_odds_96 : decode cX5_odds 96 = .ok (.invokestatic 193, 3) := by decide +kernel
theorem dX5_odds_99 : decode cX5_odds 99 = .ok (.imul, 1) := by decide +kernel
theorem dX5_odds_100 : decode cX5_odds 100 = .ok (.iadd, 1) := by decide +kernel
theorem dX5_odds_101 : decode cX5_odds 101 = .ok (.istore 5, 2) := by decide +kernel
theorem dX5_odds_103 : decode cX5_odds 103 = .ok (.iinc 6 1, 3) := by decide +kernel
theorem dX5_odds_106 : decode cX5_odds 106 = .ok (.goto (-49), 3) := by decide +kernel
theorem dX5_odds_109 : decode cX5_odds 109 = .ok (.iload 5, 2) := by decide +kernel
theorem dX5_odds_111 : decode cX5_odds 111 = .ok (.bipush 10, 2) := by decide +kernel
theorem dX5_odds_113 : decode cX5_odds 113 = .ok (.iload 4, 2) := by decide +kernel
theorem dX5_odds_115 : decode cX5_odds 115 = .ok (.invokestatic 193, 3) := by decide +kernel
theorem dX5_odds_118 : decode cX5_odds 118 = .ok (.iload_n 3, 1) := by decide +kernel
theorem dX5_odds_119 : decode cX5_odds 119 = .ok (.invokestatic 183, 3) := by decide +kernel
theorem dX5_odds_122 : decode cX5_odds 122 = .ok (.ireturn, 1) := by decide +kernel
theorem dX5_bold_0 : decode cX5_bold 0 = .ok (.iload_n 1, 1) := by decide +kernel
theorem dX5_bold_1 : decode cX5_bold 1 = .ok (.ifCond .lt 9, 3) := by decide +kernel
theorem dX5_bold_4 : decode cX5_bold 4 = .ok (.iload_n 1, 1) := by decide +kernel
theorem dX5_bold_5 : decode cX5_bold 5 = .ok (.bipush 7, 2) := by decide +kernel
theorem dX5_bold_7 : decode cX5_bold 7 = .ok (.if_icmp .le 5, 3) := by decide +kernel
theorem dX5_bold_10 : decode cX5_bold 10 = .ok (.iconst (-1), 1) := by decide +kernel
theorem dX5_bold_11 : decode cX5_bold 11 = .ok (.ireturn, 1) := by decide +kernel
theorem dX5_bold_12 : decode cX5_bold 12 = .ok (.iconst 0, 1) := by decide +kernel
theorem dX5_bold_13 : decode cX5_bold 13 = .ok (.istore_n 2, 1) := by decide +kernel
theorem dX5_bold_14 : decode cX5_bold 14 = .ok (.iconst 0, 1) := by decide +kernel
theorem dX5_bold_15 : decode cX5_bold 15 = .ok (.istore_n 3, 1) := by decide +kernel
theorem dX5_bold_16 : decode cX5_bold 16 = .ok (.iload_n 3, 1) := by decide +kernel
theorem dX5_bold_17 : decode cX5_bold 17 = .ok (.aload_n 0, 1) := by decide +kernel
theorem dX5_bold_18 : decode cX5_bold 18 = .ok (.getfield 19, 3) := by decide +kernel
theorem dX5_bold_21 : decode cX5_bold 21 = .ok (.getfield 196, 3) := by decide +kernel
theorem dX5_bold_24 : decode cX5_bold 24 = .ok (.if_icmp .ge 27, 3) := by decide +kernel
theorem dX5_bold_27 : decode cX5_bold 27 = .ok (.aload_n 0, 1) := by decide +kernel
theorem dX5_bold_28 : decode cX5_bold 28 = .ok (.getfield 19, 3) := by decide +kernel
theorem dX5_bold_31 : decode cX5_bold 31 = .ok (.getfield 89, 3) := by decide +kernel
theorem dX5_bold_34 : decode cX5_bold 34 = .ok (.iload_n 3, 1) := by decide +kernel
theorem dX5_bold_35 : decode cX5_bold 35 = .ok (.invokestatic 85, 3) := by decide +kernel
theorem dX5_bold_38 : decode cX5_bold 38 = .ok (.iload_n 1, 1) := by decide +kernel
theorem dX5_bold_39 : decode cX5_bold 39 = .ok (.if_icmp .gt 6, 3) := by decide +kernel
theorem dX5_bold_42 : decode cX5_bold 42 = .ok (.iinc 2 1, 3) := by decide +kernel
theorem dX5_bold_45 : decode cX5_bold 45 = .ok (.iinc 3 1, 3) := by decide +kernel
theorem dX5_bold_48 : decode cX5_bold 48 = .ok (.goto (-32), 3) := by decide +kernel
theorem dX5_bold_51 : decode cX5_bold 51 = .ok (.iload_n 2, 1) := by decide +kernel
theorem dX5_bold_52 : decode cX5_bold 52 = .ok (.ireturn, 1) := by decide +kernel
theorem dX5_clique_0 : decode cX5_clique 0 = .ok (.iload_n 1, 1) := by decide +kernel
theorem dX5_clique_1 : decode cX5_clique 1 = .ok (.invokestatic 171, 3) := by decide +kernel
theorem dX5_clique_4 : decode cX5_clique 4 = .ok (.ifCond .ne 5, 3) := by decide +kernel
theorem dX5_clique_7 : decode cX5_clique 7 = .ok (.iconst (-1), 1) := by decide +kernel
theorem dX5_clique_8 : decode cX5_clique 8 = .ok (.ireturn, 1) := by decide +kernel
theorem dX5_clique_9 : decode cX5_clique 9 = .ok (.aload_n 0, 1) := by decide +kernel
theorem dX5_clique_10 : decode cX5_clique 10 = .ok (.getfield 19, 3) := by decide +kernel
theorem dX5_clique_13 : decode cX5_clique 13 = .ok (.invokevirtual 197, 3) := by decide +kernel
theorem dX5_clique_16 : decode cX5_clique 16 = .ok (.istore_n 2, 1) := by decide +kernel
theorem dX5_clique_17 : decode cX5_clique 17 = .ok (.iload_n 1, 1) := by decide +kernel
theorem dX5_clique_18 : decode cX5_clique 18 = .ok (.ifCond .ne 10, 3) := by decide +kernel
theorem dX5_clique_21 : decode cX5_clique 21 = .ok (.iload_n 2, 1) := by decide +kernel
theorem dX5_clique_22 : decode cX5_clique 22 = .ok (.invokestatic 135, 3) := by decide +kernel
theorem dX5_clique_25 : decode cX5_clique 25 = .ok (.goto 4, 3) := by decide +kernel
theorem dX5_clique_28 : decode cX5_clique 28 = .ok (.iload_n 2, 1) := by decide +kernel
theorem dX5_clique_29 : decode cX5_clique 29 = .ok (.ireturn, 1) := by decide +kernel
theorem dX5_rate_0 : decode cX5_rate 0 = .ok (.aload_n 0, 1) := by decide +kernel
theorem dX5_rate_1 : decode cX5_rate 1 = .ok (.iload_n 2, 1) := by decide +kernel
theorem dX5_rate_2 : decode cX5_rate 2 = .ok (.invokevirtual 78, 3) := by decide +kernel
theorem dX5_rate_5 : decode cX5_rate 5 = .ok (.ifCond .ne 6, 3) := by decide +kernel
theorem dX5_rate_8 : decode cX5_rate 8 = .ok (.ldc 200, 2) := by decide +kernel
theorem dX5_rate_10 : decode cX5_rate 10 = .ok (.ireturn, 1) := by decide +kernel
theorem dX5_rate_11 : decode cX5_rate 11 = .ok (.iload_n 1, 1) := by decide +kernel
theorem dX5_rate_12 : decode cX5_rate 12 = .ok (.tableswitch 76 0 5 #[40, 46, 52, 58, 64, 70], 40) := by decide +kernel
theorem dX5_rate_52 : decode cX5_rate 52 = .ok (.aload_n 0, 1) := by decide +kernel
theorem dX5_rate_53 : decode cX5_rate 53 = .ok (.iload_n 2, 1) := by decide +kernel
theorem dX5_rate_54 : decode cX5_rate 54 = .ok (.invokevirtual 201, 3) := by decide +kernel
theorem dX5_rate_57 : decode cX5_rate 57 = .ok (.ireturn, 1) := by decide +kernel
theorem dX5_rate_58 : decode cX5_rate 58 = .ok (.aload_n 0, 1) := by decide +kernel
theorem dX5_rate_59 : decode cX5_rate 59 = .ok (.iload_n 2, 1) := by decide +kernel
theorem dX5_rate_60 : decode cX5_rate 60 = .ok (.invokevirtual 204, 3) := by decide +kernel
theorem dX5_rate_63 : decode cX5_rate 63 = .ok (.ireturn, 1) := by decide +kernel
theorem dX5_rate_64 : decode cX5_rate 64 = .ok (.aload_n 0, 1) := by decide +kernel
theorem dX5_rate_65 : decode cX5_rate 65 = .ok (.iload_n 2, 1) := by decide +kernel
theorem dX5_rate_66 : decode cX5_rate 66 = .ok (.invokevirtual 207, 3) := by decide +kernel
theorem dX5_rate_69 : decode cX5_rate 69 = .ok (.ireturn, 1) := by decide +kernel
theorem dX5_rate_70 : decode cX5_rate 70 = .ok (.aload_n 0, 1) := by decide +kernel
theorem dX5_rate_71 : decode cX5_rate 71 = .ok (.iload_n 2, 1) := by decide +kernel
theorem dX5_rate_72 : decode cX5_rate 72 = .ok (.invokevirtual 210, 3) := by decide +kernel
theorem dX5_rate_75 : decode cX5_rate 75 = .ok (.ireturn, 1) := by decide +kernel
theorem dX5_rate_76 : decode cX5_rate 76 = .ok (.aload_n 0, 1) := by decide +kernel
theorem dX5_rate_77 : decode cX5_rate 77 = .ok (.iload_n 2, 1) := by decide +kernel
theorem dX5_rate_78 : decode cX5_rate 78 = .ok (.invokevirtual 213, 3) := by decide +kernel
theorem dX5_rate_81 : decode cX5_rate 81 = .ok (.ireturn, 1) := by decide +kernel
theorem dX5_rate_82 : decode cX5_rate 82 = .ok (.aload_n 0, 1) := by decide +kernel
theorem dX5_rate_83 : decode cX5_rate 83 = .ok (.iload_n 2, 1) := by decide +kernel
theorem dX5_rate_84 : decode cX5_rate 84 = .ok (.invokevirtual 216, 3) := by decide +kernel
theorem dX5_rate_87 : decode cX5_rate 87 = .ok (.ireturn, 1) := by decide +kernel
theorem dX5_rate_88 : decode cX5_rate 88 = .ok (.ldc 200, 2) := by decide +kernel
theorem dX5_rate_90 : decode cX5_rate 90 = .ok (.ireturn, 1) := by decide +kernel
theorem dX5_keep_0 : decode cX5_keep 0 = .ok (.iload_n 1, 1) := by decide +kernel
theorem dX5_keep_1 : decode cX5_keep 1 = .ok (.invokestatic 171, 3) := by decide +kernel
theorem dX5_keep_4 : decode cX5_keep 4 = .ok (.ifCond .ne 5, 3) := by decide +kernel
theorem dX5_keep_7 : decode cX5_keep 7 = .ok (.iconst (-1), 1) := by decide +kernel
theorem dX5_keep_8 : decode cX5_keep 8 = .ok (.ireturn, 1) := by decide +kernel
theorem dX5_keep_9 : decode cX5_keep 9 = .ok (.aload_n 0, 1) := by decide +kernel
theorem dX5_keep_10 : decode cX5_keep 10 = .ok (.iload_n 1, 1) := by decide +kernel
theorem dX5_keep_11 : decode cX5_keep 11 = .ok (.invokevirtual 219, 3) := by decide +kernel
theorem dX5_keep_14 : decode cX5_keep 14 = .ok (.aload_n 0, 1) := by decide +kernel
theorem dX5_keep_15 : decode cX5_keep 15 = .ok (.getfield 29, 3) := by decide +kernel
theorem dX5_keep_18 : decode cX5_keep 18 = .ok (.invokevirtual 223, 3) := by decide +kernel
theorem dX5_keep_21 : decode cX5_keep 21 = .ok (.aload_n 0, 1) := by decide +kernel
theorem dX5_keep_22 : decode cX5_keep 22 = .ok (.dup, 1) := by decide +kernel
theorem dX5_keep_23 : decode cX5_keep 23 = .ok (.getfield 75, 3) := by decide +kernel
theorem dX5_keep_26 : decode cX5_keep 26 = .ok (.iconst 1, 1) := by decide +kernel
theorem dX5_keep_27 : decode cX5_keep 27 = .ok (.iload_n 1, 1) := by decide +kernel
theorem dX5_keep_28 : decode cX5_keep 28 = .ok (.ishl, 1) := by decide +kernel
theorem dX5_keep_29 : decode cX5_keep 29 = .ok (.ior, 1) := by decide +kernel
theorem dX5_keep_30 : decode cX5_keep 30 = .ok (.putfield 75, 3) := by decide +kernel
theorem dX5_keep_33 : decode cX5_keep 33 = .ok (.aload_n 0, 1) := by decide +kernel
theorem dX5_keep_34 : decode cX5_keep 34 = .ok (.getfield 29, 3) := by decide +kernel
theorem dX5_keep_37 : decode cX5_keep 37 = .ok (.getfield 118, 3) := by decide +kernel
theorem dX5_keep_40 : decode cX5_keep 40 = .ok (.ireturn, 1) := by decide +kernel
theorem dX5_back_0 : decode cX5_back 0 = .ok (.iload_n 1, 1) := by decide +kernel
theorem dX5_back_1 : decode cX5_back 1 = .ok (.invokestatic 171, 3) := by decide +kernel
theorem dX5_back_4 : decode cX5_back 4 = .ok (.ifCond .ne 5, 3) := by decide +kernel
theorem dX5_back_7 : decode cX5_back 7 = .ok (.iconst (-1), 1) := by decide +kernel
theorem dX5_back_8 : decode cX5_back 8 = .ok (.ireturn, 1) := by decide +kernel
theorem dX5_back_9 : decode cX5_back 9 = .ok (.aload_n 0, 1) := by decide +kernel
theorem dX5_back_10 : decode cX5_back 10 = .ok (.getfield 75, 3) := by decide +kernel
theorem dX5_back_13 : decode cX5_back 13 = .ok (.iload_n 1, 1) := by decide +kernel
theorem dX5_back_14 : decode cX5_back 14 = .ok (.invokestatic 99, 3) := by decide +kernel
theorem dX5_back_17 : decode cX5_back 17 = .ok (.ifCond .ne 6, 3) := by decide +kernel
theorem dX5_back_20 : decode cX5_back 20 = .ok (.bipush (-2), 2) := by decide +kernel
theorem dX5_back_22 : decode cX5_back 22 = .ok (.ireturn, 1) := by decide +kernel
theorem dX5_back_23 : decode cX5_back 23 = .ok (.aload_n 0, 1) := by decide +kernel
theorem dX5_back_24 : decode cX5_back 24 = .ok (.getfield 29, 3) := by decide +kernel
theorem dX5_back_27 : decode cX5_back 27 = .ok (.aload_n 0, 1) := by decide +kernel
theorem dX5_back_28 : decode cX5_back 28 = .ok (.iload_n 1, 1) := by decide +kernel
theorem dX5_back_29 : decode cX5_back 29 = .ok (.invokevirtual 219, 3) := by decide +kernel
theorem dX5_back_32 : decode cX5_back 32 = .ok (.invokevirtual 223, 3) := by decide +kernel
theorem dX5_back_35 : decode cX5_back 35 = .ok (.aload_n 0, 1) := by decide +kernel
theorem dX5_back_36 : decode cX5_back 36 = .ok (.getfield 36, 3) := by decide +kernel
theorem dX5_back_39 : decode cX5_back 39 = .ok (.invokevirtual 72, 3) := by decide +kernel
theorem dX5_back_42 : decode cX5_back 42 = .ok (.aload_n 0, 1) := by decide +kernel
theorem dX5_back_43 : decode cX5_back 43 = .ok (.getfield 29, 3) := by decide +kernel
theorem dX5_back_46 : decode cX5_back 46 = .ok (.getfield 118, 3) := by decide +kernel
theorem dX5_back_49 : decode cX5_back 49 = .ok (.ireturn, 1) := by decide +kernel
theorem dX5_count_0 : decode cX5_count 0 = .ok (.iload_n 1, 1) := by decide +kernel
theorem dX5_count_1 : decode cX5_count 1 = .ok (.tableswitch 63 0 3 #[31, 39, 47, 55], 31) := by decide +kernel
theorem dX5_count_32 : decode cX5_count 32 = .ok (.aload_n 0, 1) := by decide +kernel
theorem dX5_count_33 : decode cX5_count 33 = .ok (.getfield 19, 3) := by decide +kernel
theorem dX5_count_36 : decode cX5_count 36 = .ok (.getfield 196, 3) := by decide +kernel
theorem dX5_count_39 : decode cX5_count 39 = .ok (.ireturn, 1) := by decide +kernel
theorem dX5_count_40 : decode cX5_count 40 = .ok (.aload_n 0, 1) := by decide +kernel
theorem dX5_count_41 : decode cX5_count 41 = .ok (.getfield 19, 3) := by decide +kernel
theorem dX5_count_44 : decode cX5_count 44 = .ok (.getfield 225, 3) := by decide +kernel
theorem dX5_count_47 : decode cX5_count 47 = .ok (.ireturn, 1) := by decide +kernel
theorem dX5_count_48 : decode cX5_count 48 = .ok (.aload_n 0, 1) := by decide +kernel
theorem dX5_count_49 : decode cX5_count 49 = .ok (.getfield 19, 3) := by decide +kernel
theorem dX5_count_52 : decode cX5_count 52 = .ok (.getfield 228, 3) := by decide +kernel
theorem dX5_count_55 : decode cX5_count 55 = .ok (.ireturn, 1) := by decide +kernel
theorem dX5_count_56 : decode cX5_count 56 = .ok (.aload_n 0, 1) := by decide +kernel
theorem dX5_count_57 : decode cX5_count 57 = .ok (.getfield 10, 3) := by decide +kernel
theorem dX5_count_60 : decode cX5_count 60 = .ok (.getfield 57, 3) := by decide +kernel
theorem dX5_count_63 : decode cX5_count 63 = .ok (.ireturn, 1) := by decide +kernel
theorem dX5_count_64 : decode cX5_count 64 = .ok (.iconst (-1), 1) := by decide +kernel
theorem dX5_count_65 : decode cX5_count 65 = .ok (.ireturn, 1) := by decide +kernel
theorem dX5_trace_0 : decode cX5_trace 0 = .ok (.aload_n 0, 1) := by decide +kernel
theorem dX5_trace_1 : decode cX5_trace 1 = .ok (.getfield 231, 3) := by decide +kernel
theorem dX5_trace_4 : decode cX5_trace 4 = .ok (.lreturn, 1) := by decide +kernel
theorem dX5_isSailor_0 : decode cX5_isSailor 0 = .ok (.iload_n 1, 1) := by decide +kernel
theorem dX5_isSailor_1 : decode cX5_isSailor 1 = .ok (.ifCond .lt 18, 3) := by decide +kernel
theorem dX5_isSailor_4 : decode cX5_isSailor 4 = .ok (.iload_n 1, 1) := by decide +kernel
theorem dX5_isSailor_5 : decode cX5_isSailor 5 = .ok (.aload_n 0, 1) := by decide +kernel
theorem dX5_isSailor_6 : decode cX5_isSailor 6 = .ok (.getfield 19, 3) := by decide +kernel
theorem dX5_isSailor_9 : decode cX5_isSailor 9 = .ok (.getfield 196, 3) := by decide +kernel
theorem dX5_isSailor_12 : decode cX5_isSailor 12 = .ok (.if_icmp .ge 7, 3) := by decide +kernel
theorem dX5_isSailor_15 : decode cX5_isSailor 15 = .ok (.iconst 1, 1) := by decide +kernel
theorem dX5_isSailor_16 : decode cX5_isSailor 16 = .ok (.goto 4, 3) := by decide +kernel
theorem dX5_isSailor_19 : decode cX5_isSailor 19 = .ok (.iconst 0, 1) := by decide +kernel
theorem dX5_isSailor_20 : decode cX5_isSailor 20 = .ok (.ireturn, 1) := by decide +kernel
theorem dX5_isSeat_0 : decode cX5_isSeat 0 = .ok (.iload_n 1, 1) := by decide +kernel
theorem dX5_isSeat_1 : decode cX5_isSeat 1 = .ok (.ifCond .lt 18, 3) := by decide +kernel
theorem dX5_isSeat_4 : decode cX5_isSeat 4 = .ok (.iload_n 1, 1) := by decide +kernel
theorem dX5_isSeat_5 : decode cX5_isSeat 5 = .ok (.aload_n 0, 1) := by decide +kernel
theorem dX5_isSeat_6 : decode cX5_isSeat 6 = .ok (.getfield 19, 3) := by decide +kernel
theorem dX5_isSeat_9 : decode cX5_isSeat 9 = .ok (.getfield 228, 3) := by decide +kernel
theorem dX5_isSeat_12 : decode cX5_isSeat 12 = .ok (.if_icmp .ge 7, 3) := by decide +kernel
theorem dX5_isSeat_15 : decode cX5_isSeat 15 = .ok (.iconst 1, 1) := by decide +kernel
theorem dX5_isSeat_16 : decode cX5_isSeat 16 = .ok (.goto 4, 3) := by decide +kernel
theorem dX5_isSeat_19 : decode cX5_isSeat 19 = .ok (.iconst 0, 1) := by decide +kernel
theorem dX5_isSeat_20 : decode cX5_isSeat 20 = .ok (.ireturn, 1) := by decide +kernel
theorem dX5_isThere_0 : decode cX5_isThere 0 = .ok (.aload_n 0, 1) := by decide +kernel
theorem dX5_isThere_1 : decode cX5_isThere 1 = .ok (.iload_n 1, 1) := by decide +kernel
theorem dX5_isThere_2 : decode cX5_isThere 2 = .ok (.invokevirtual 78, 3) := by decide +kernel
theorem dX5_isThere_5 : decode cX5_isThere 5 = .ok (.ifCond .eq 21, 3) := by decide +kernel
theorem dX5_isThere_8 : decode cX5_isThere 8 = .ok (.aload_n 0, 1) := by decide +kernel
theorem dX5_isThere_9 : decode cX5_isThere 9 = .ok (.getfield 29, 3) := by decide +kernel
theorem dX5_isThere_12 : decode cX5_isThere 12 = .ok (.invokevirtual 121, 3) := by decide +kernel
theorem dX5_isThere_15 : decode cX5_isThere 15 = .ok (.iload_n 1, 1) := by decide +kernel
theorem dX5_isThere_16 : decode cX5_isThere 16 = .ok (.invokestatic 99, 3) := by decide +kernel
theorem dX5_isThere_19 : decode cX5_isThere 19 = .ok (.ifCond .eq 7, 3) := by decide +kernel
theorem dX5_isThere_22 : decode cX5_isThere 22 = .ok (.iconst 1, 1) := by decide +kernel
theorem dX5_isThere_23 : decode cX5_isThere 23 = .ok (.goto 4, 3) := by decide +kernel
theorem dX5_isThere_26 : decode cX5_isThere 26 = .ok (.iconst 0, 1) := by decide +kernel
theorem dX5_isThere_27 : decode cX5_isThere 27 = .ok (.ireturn, 1) := by decide +kernel
theorem dX5_isPart_0 : decode cX5_isPart 0 = .ok (.iload_n 0, 1) := by decide +kernel
theorem dX5_isPart_1 : decode cX5_isPart 1 = .ok (.ifCond .eq 8, 3) := by decide +kernel
theorem dX5_isPart_4 : decode cX5_isPart 4 = .ok (.iload_n 0, 1) := by decide +kernel
theorem dX5_isPart_5 : decode cX5_isPart 5 = .ok (.iconst 1, 1) := by decide +kernel
theorem dX5_isPart_6 : decode cX5_isPart 6 = .ok (.if_icmp .ne 7, 3) := by decide +kernel
theorem dX5_isPart_9 : decode cX5_isPart 9 = .ok (.iconst 1, 1) := by decide +kernel
theorem dX5_isPart_10 : decode cX5_isPart 10 = .ok (.goto 4, 3) := by decide +kernel
theorem dX5_isPart_13 : decode cX5_isPart 13 = .ok (.iconst 0, 1) := by decide +kernel
theorem dX5_isPart_14 : decode cX5_isPart 14 = .ok (.ireturn, 1) := by decide +kernel
theorem dX5_wouldSign_0 : decode cX5_wouldSign 0 = .ok (.aload_n 0, 1) := by decide +kernel
theorem dX5_wouldSign_1 : decode cX5_wouldSign 1 = .ok (.getfield 29, 3) := by decide +kernel
theorem dX5_wouldSign_4 : decode cX5_wouldSign 4 = .ok (.getfield 96, 3) := by decide +kernel
theorem dX5_wouldSign_7 : decode cX5_wouldSign 7 = .ok (.iload_n 1, 1) := by decide +kernel
theorem dX5_wouldSign_8 : decode cX5_wouldSign 8 = .ok (.invokestatic 99, 3) := by decide +kernel
theorem dX5_wouldSign_11 : decode cX5_wouldSign 11 = .ok (.ifCond .ne 43, 3) := by decide +kernel
theorem dX5_wouldSign_14 : decode cX5_wouldSign 14 = .ok (.aload_n 0, 1) := by decide +kernel
theorem dX5_wouldSign_15 : decode cX5_wouldSign 15 = .ok (.getfield 19, 3) := by decide +kernel
theorem dX5_wouldSign_18 : decode cX5_wouldSign 18 = .ok (.iload_n 1, 1) := by decide +kernel
theorem dX5_wouldSign_19 : decode cX5_wouldSign 19 = .ok (.aload_n 0, 1) := by decide +kernel
theorem dX5_wouldSign_20 : decode cX5_wouldSign 20 = .ok (.getfield 29, 3) := by decide +kernel
theorem dX5_wouldSign_23 : decode cX5_wouldSign 23 = .ok (.getfield 118, 3) := by decide +kernel
theorem dX5_wouldSign_26 : decode cX5_wouldSign 26 = .ok (.invokevirtual 235, 3) := by decide +kernel
theorem dX5_wouldSign_29 : decode cX5_wouldSign 29 = .ok (.ifCond .ne 25, 3) := by decide +kernel
theorem dX5_wouldSign_32 : decode cX5_wouldSign 32 = .ok (.aload_n 0, 1) := by decide +kernel
theorem dX5_wouldSign_33 : decode cX5_wouldSign 33 = .ok (.getfield 19, 3) := by decide +kernel
theorem dX5_wouldSign_36 : decode cX5_wouldSign 36 = .ok (.iload_n 1, 1) := by decide +kernel
theorem dX5_wouldSign_37 : decode cX5_wouldSign 37 = .ok (.aload_n 0, 1) := by decide +kernel
theorem dX5_wouldSign_38 : decode cX5_wouldSign 38 = .ok (.getfield 29, 3) := by decide +kernel
theorem dX5_wouldSign_41 : decode cX5_wouldSign 41 = .ok (.getfield 96, 3) := by decide +kernel
theorem dX5_wouldSign_44 : decode cX5_wouldSign 44 = .ok (.invokevirtual 238, 3) := by decide +kernel
theorem dX5_wouldSign_47 : decode cX5_wouldSign 47 = .ok (.ifCond .eq 7, 3) := by decide +kernel
theorem dX5_wouldSign_50 : decode cX5_wouldSign 50 = .ok (.iconst 1, 1) := by decide +kernel
theorem dX5_wouldSign_51 : decode cX5_wouldSign 51 = .ok (.goto 4, 3) := by decide +kernel
theorem dX5_wouldSign_54 : decode cX5_wouldSign 54 = .ok (.iconst 0, 1) := by decide +kernel
theorem dX5_wouldSign_55 : decode cX5_wouldSign 55 = .ok (.ireturn, 1) := by decide +kernel
theorem dX5_thoseWhoWould_0 : decode cX5_thoseWhoWould 0 = .ok (.iconst 0, 1) := by decide +kernel
theorem dX5_thoseWhoWould_1 : decode cX5_thoseWhoWould 1 = .ok (.istore_n 1, 1) := by decide +kernel
theorem dX5_thoseWhoWould_2 : decode cX5_thoseWhoWould 2 = .ok (.iconst 0, 1) := by decide +kernel
theorem dX5_thoseWhoWould_3 : decode cX5_thoseWhoWould 3 = .ok (.istore_n 2, 1) := by decide +kernel
theorem dX5_thoseWhoWould_4 : decode cX5_thoseWhoWould 4 = .ok (.iload_n 2, 1) := by decide +kernel
theorem dX5_thoseWhoWould_5 : decode cX5_thoseWhoWould 5 = .ok (.aload_n 0, 1) := by decide +kernel
theorem dX5_thoseWhoWould_6 : decode cX5_thoseWhoWould 6 = .ok (.getfield 19, 3) := by decide +kernel
theorem dX5_thoseWhoWould_9 : decode cX5_thoseWhoWould 9 = .ok (.getfield 196, 3) := by decide +kernel
theorem dX5_thoseWhoWould_12 : decode cX5_thoseWhoWould 12 = .ok (.if_icmp .ge 23, 3) := by decide +kernel
theorem dX5_thoseWhoWould_15 : decode cX5_thoseWhoWould 15 = .ok (.aload_n 0, 1) := by decide +kernel
theorem dX5_thoseWhoWould_16 : decode cX5_thoseWhoWould 16 = .ok (.iload_n 2, 1) := by decide +kernel
theorem dX5_thoseWhoWould_17 : decode cX5_thoseWhoWould 17 = .ok (.invokevirtual 106, 3) := by decide +kernel
theorem dX5_thoseWhoWould_20 : decode cX5_thoseWhoWould 20 = .ok (.ifCond .eq 9, 3) := by decide +kernel
theorem dX5_thoseWhoWould_23 : decode cX5_thoseWhoWould 23 = .ok (.iload_n 1, 1) := by decide +kernel
theorem dX5_thoseWhoWould_24 : decode cX5_thoseWhoWould 24 = .ok (.iconst 1, 1) := by decide +kernel
theorem dX5_thoseWhoWould_25 : decode cX5_thoseWhoWould 25 = .ok (.iload_n 2, 1) := by decide +kernel
theorem dX5_thoseWhoWould_26 : decode cX5_thoseWhoWould 26 = .ok (.ishl, 1) := by decide +kernel
theorem dX5_thoseWhoWould_27 : decode cX5_thoseWhoWould 27 = .ok (.ior, 1) := by decide +kernel
theorem dX5_thoseWhoWould_28 : decode cX5_thoseWhoWould 28 = .ok (.istore_n 1, 1) := by decide +kernel
theorem dX5_thoseWhoWould_29 : decode cX5_thoseWhoWould 29 = .ok (.iinc 2 1, 3) := by decide +kernel
theorem dX5_thoseWhoWould_32 : decode cX5_thoseWhoWould 32 = .ok (.goto (-28), 3) := by decide +kernel
theorem dX5_thoseWhoWould_35 : decode cX5_thoseWhoWould 35 = .ok (.iload_n 1, 1) := by decide +kernel
theorem dX5_thoseWhoWould_36 : decode cX5_thoseWhoWould 36 = .ok (.ireturn, 1) := by decide +kernel
theorem dX5_imageAt_0 : decode cX5_imageAt 0 = .ok (.iload_n 1, 1) := by decide +kernel
theorem dX5_imageAt_1 : decode cX5_imageAt 1 = .ok (.ifCond .ne 10, 3) := by decide +kernel
theorem dX5_imageAt_4 : decode cX5_imageAt 4 = .ok (.aload_n 0, 1) := by decide +kernel
theorem dX5_imageAt_5 : decode cX5_imageAt 5 = .ok (.getfield 40, 3) := by decide +kernel
theorem dX5_imageAt_8 : decode cX5_imageAt 8 = .ok (.goto 7, 3) := by decide +kernel
theorem dX5_imageAt_11 : decode cX5_imageAt 11 = .ok (.aload_n 0, 1) := by decide +kernel
theorem dX5_imageAt_12 : decode cX5_imageAt 12 = .ok (.getfield 43, 3) := by decide +kernel
theorem dX5_imageAt_15 : decode cX5_imageAt 15 = .ok (.areturn, 1) := by decide +kernel
theorem dX5_asSailor_0 : decode cX5_asSailor 0 = .ok (.aload_n 0, 1) := by decide +kernel
theorem dX5_asSailor_1 : decode cX5_asSailor 1 = .ok (.dup, 1) := by decide +kernel
theorem dX5_asSailor_2 : decode cX5_asSailor 2 = .ok (.getfield 231, 3) := by decide +kernel
theorem dX5_asSailor_5 : decode cX5_asSailor 5 = .ok (.lconst 1, 1) := by decide +kernel
theorem dX5_asSailor_6 : decode cX5_asSailor 6 = .ok (.ladd, 1) := by decide +kernel
theorem dX5_asSailor_7 : decode cX5_asSailor 7 = .ok (.putfield 231, 3) := by decide +kernel
theorem dX5_asSailor_10 : decode cX5_asSailor 10 = .ok (.aload_n 0, 1) := by decide +kernel
theorem dX5_asSailor_11 : decode cX5_asSailor 11 = .ok (.getfield 19, 3) := by decide +kernel
theorem dX5_asSailor_14 : decode cX5_asSailor 14 = .ok (.getfield 89, 3) := by decide +kernel
theorem dX5_asSailor_17 : decode cX5_asSailor 17 = .ok (.iload_n 1, 1) := by decide +kernel
theorem dX5_asSailor_18 : decode cX5_asSailor 18 = .ok (.invokestatic 85, 3) := by decide +kernel
theorem dX5_asSailor_21 : decode cX5_asSailor 21 = .ok (.ireturn, 1) := by decide +kernel
theorem dX5_asCook_0 : decode cX5_asCook 0 = .ok (.aload_n 0, 1) := by decide +kernel
theorem dX5_asCook_1 : decode cX5_asCook 1 = .ok (.dup, 1) := by decide +kernel
theorem dX5_asCook_2 : decode cX5_asCook 2 = .ok (.getfield 231, 3) := by decide +kernel
theorem dX5_asCook_5 : decode cX5_asCook 5 = .ok (.ldc2_w 241, 3) := by decide +kernel
theorem dX5_asCook_8 : decode cX5_asCook 8 = .ok (.ladd, 1) := by decide +kernel
theorem dX5_asCook_9 : decode cX5_asCook 9 = .ok (.putfield 231, 3) := by decide +kernel
theorem dX5_asCook_12 : decode cX5_asCook 12 = .ok (.aload_n 0, 1) := by decide +kernel
theorem dX5_asCook_13 : decode cX5_asCook 13 = .ok (.iload_n 1, 1) := by decide +kernel
theorem dX5_asCook_14 : decode cX5_asCook 14 = .ok (.invokevirtual 201, 3) := by decide +kernel
theorem dX5_asCook_17 : decode cX5_asCook 17 = .ok (.aload_n 0, 1) := by decide +kernel
theorem dX5_asCook_18 : decode cX5_asCook 18 = .ok (.getfield 29, 3) := by decide +kernel
theorem dX5_asCook_21 : decode cX5_asCook 21 = .ok (.iload_n 1, 1) := by decide +kernel
theorem dX5_asCook_22 : decode cX5_asCook 22 = .ok (.invokevirtual 243, 3) := by decide +kernel
theorem dX5_asCook_25 : decode cX5_asCook 25 = .ok (.iadd, 1) := by decide +kernel
theorem dX5_asCook_26 : decode cX5_asCook 26 = .ok (.ireturn, 1) := by decide +kernel
theorem dX5_asMate_0 : decode cX5_asMate 0 = .ok (.aload_n 0, 1) := by decide +kernel
theorem dX5_asMate_1 : decode cX5_asMate 1 = .ok (.dup, 1) := by decide +kernel
theorem dX5_asMate_2 : decode cX5_asMate 2 = .ok (.getfield 231, 3) := by decide +kernel
theorem dX5_asMate_5 : decode cX5_asMate 5 = .ok (.ldc2_w 246, 3) := by decide +kernel
theorem dX5_asMate_8 : decode cX5_asMate 8 = .ok (.ladd, 1) := by decide +kernel
theorem dX5_asMate_9 : decode cX5_asMate 9 = .ok (.putfield 231, 3) := by decide +kernel
theorem dX5_asMate_12 : decode cX5_asMate 12 = .ok (.aload_n 0, 1) := by decide +kernel
theorem dX5_asMate_13 : decode cX5_asMate 13 = .ok (.iload_n 1, 1) := by decide +kernel
theorem dX5_asMate_14 : decode cX5_asMate 14 = .ok (.invokevirtual 201, 3) := by decide +kernel
theorem dX5_asMate_17 : decode cX5_asMate 17 = .ok (.aload_n 0, 1) := by decide +kernel
theorem dX5_asMate_18 : decode cX5_asMate 18 = .ok (.getfield 19, 3) := by decide +kernel
theorem dX5_asMate_21 : decode cX5_asMate 21 = .ok (.iload_n 1, 1) := by decide +kernel
theorem dX5_asMate_22 : decode cX5_asMate 22 = .ok (.invokevirtual 92, 3) := by decide +kernel
theorem dX5_asMate_25 : decode cX5_asMate 25 = .ok (.invokestatic 135, 3) := by decide +kernel
theorem dX5_asMate_28 : decode cX5_asMate 28 = .ok (.isub, 1) := by decide +kernel
theorem dX5_asMate_29 : decode cX5_asMate 29 = .ok (.ireturn, 1) := by decide +kernel
theorem dX5_asBosun_0 : decode cX5_asBosun 0 = .ok (.aload_n 0, 1) := by decide +kernel
theorem dX5_asBosun_1 : decode cX5_asBosun 1 = .ok (.dup, 1) := by decide +kernel
theorem dX5_asBosun_2 : decode cX5_asBosun 2 = .ok (.getfield 231, 3) := by decide +kernel
theorem dX5_asBosun_5 : decode cX5_asBosun 5 = .ok (.ldc2_w 248, 3) := by decide +kernel
theorem dX5_asBosun_8 : decode cX5_asBosun 8 = .ok (.ladd, 1) := by decide +kernel
theorem dX5_asBosun_9 : decode cX5_asBosun 9 = .ok (.putfield 231, 3) := by decide +kernel
theorem dX5_asBosun_12 : decode cX5_asBosun 12 = .ok (.iconst 2, 1) := by decide +kernel
theorem dX5_asBosun_13 : decode cX5_asBosun 13 = .ok (.aload_n 0, 1) := by decide +kernel
theorem dX5_asBosun_14 : decode cX5_asBosun 14 = .ok (.iload_n 1, 1) := by decide +kernel
theorem dX5_asBosun_15 : decode cX5_asBosun 15 = .ok (.invokevirtual 204, 3) := by decide +kernel
theorem dX5_asBosun_18 : decode cX5_asBosun 18 = .ok (.imul, 1) := by decide +kernel
theorem dX5_asBosun_19 : decode cX5_asBosun 19 = .ok (.ireturn, 1) := by decide +kernel
theorem dX5_asGunner_0 : decode cX5_asGunner 0 = .ok (.aload_n 0, 1) := by decide +kernel
theorem dX5_asGunner_1 : decode cX5_asGunner 1 = .ok (.dup, 1) := by decide +kernel
theorem dX5_asGunner_2 : decode cX5_asGunner 2 = .ok (.getfield 231, 3) := by decide +kernel
theorem dX5_asGunner_5 : decode cX5_asGunner 5 = .ok (.ldc2_w 250, 3) := by decide +kernel
theorem dX5_asGunner_8 : decode cX5_asGunner 8 = .ok (.ladd, 1) := by decide +kernel
theorem dX5_asGunner_9 : decode cX5_asGunner 9 = .ok (.putfield 231, 3) := by decide +kernel
theorem dX5_asGunner_12 : decode cX5_asGunner 12 = .ok (.aload_n 0, 1) := by decide +kernel
theorem dX5_asGunner_13 : decode cX5_asGunner 13 = .ok (.iload_n 1, 1) := by decide +kernel
theorem dX5_asGunner_14 : decode cX5_asGunner 14 = .ok (.invokevirtual 207, 3) := by decide +kernel
theorem dX5_asGunner_17 : decode cX5_asGunner 17 = .ok (.iload_n 1, 1) := by decide +kernel
theorem dX5_asGunner_18 : decode cX5_asGunner 18 = .ok (.iadd, 1) := by decide +kernel
theorem dX5_asGunner_19 : decode cX5_asGunner 19 = .ok (.ireturn, 1) := by decide +kernel
theorem dX5_asBoy_0 : decode cX5_asBoy 0 = .ok (.aload_n 0, 1) := by decide +kernel
theorem dX5_asBoy_1 : decode cX5_asBoy 1 = .ok (.dup, 1) := by decide +kernel
theorem dX5_asBoy_2 : decode cX5_asBoy 2 = .ok (.getfield 231, 3) := by decide +kernel
theorem dX5_asBoy_5 : decode cX5_asBoy 5 = .ok (.ldc2_w 252, 3) := by decide +kernel
theorem dX5_asBoy_8 : decode cX5_asBoy 8 = .ok (.ladd, 1) := by decide +kernel
theorem dX5_asBoy_9 : decode cX5_asBoy 9 = .ok (.putfield 231, 3) := by decide +kernel
theorem dX5_asBoy_12 : decode cX5_asBoy 12 = .ok (.aload_n 0, 1) := by decide +kernel
theorem dX5_asBoy_13 : decode cX5_asBoy 13 = .ok (.iload_n 1, 1) := by decide +kernel
theorem dX5_asBoy_14 : decode cX5_asBoy 14 = .ok (.invokevirtual 201, 3) := by decide +kernel
theorem dX5_asBoy_17 : decode cX5_asBoy 17 = .ok (.aload_n 0, 1) := by decide +kernel
theorem dX5_asBoy_18 : decode cX5_asBoy 18 = .ok (.getfield 29, 3) := by decide +kernel
theorem dX5_asBoy_21 : decode cX5_asBoy 21 = .ok (.getfield 118, 3) := by decide +kernel
theorem dX5_asBoy_24 : decode cX5_asBoy 24 = .ok (.iadd, 1) := by decide +kernel
theorem dX5_asBoy_25 : decode cX5_asBoy 25 = .ok (.ireturn, 1) := by decide +kernel
theorem dX5_has_0 : decode cX5_has 0 = .ok (.iload_n 1, 1) := by decide +kernel
theorem dX5_has_1 : decode cX5_has 1 = .ok (.ifCond .lt 21, 3) := by decide +kernel
theorem dX5_has_4 : decode cX5_has 4 = .ok (.iload_n 1, 1) := by decide +kernel
theorem dX5_has_5 : decode cX5_has 5 = .ok (.bipush 32, 2) := by decide +kernel
theorem dX5_has_7 : decode cX5_has 7 = .ok (.if_icmp .ge 15, 3) := by decide +kernel
theorem dX5_has_10 : decode cX5_has 10 = .ok (.iload_n 0, 1) := by decide +kernel
theorem dX5_has_11 : decode cX5_has 11 = .ok (.iload_n 1, 1) := by decide +kernel
theorem dX5_has_12 : decode cX5_has 12 = .ok (.iushr, 1) := by decide +kernel
theorem dX5_has_13 : decode cX5_has 13 = .ok (.iconst 1, 1) := by decide +kernel
theorem dX5_has_14 : decode cX5_has 14 = .ok (.iand, 1) := by decide +kernel
theorem dX5_has_15 : decode cX5_has 15 = .ok (.ifCond .eq 7, 3) := by decide +kernel
theorem dX5_has_18 : decode cX5_has 18 = .ok (.iconst 1, 1) := by decide +kernel
theorem dX5_has_19 : decode cX5_has 19 = .ok (.goto 4, 3) := by decide +kernel
theorem dX5_has_22 : decode cX5_has 22 = .ok (.iconst 0, 1) := by decide +kernel
theorem dX5_has_23 : decode cX5_has 23 = .ok (.ireturn, 1) := by decide +kernel
theorem dX5_at_0 : decode cX5_at 0 = .ok (.iload_n 1, 1) := by decide +kernel
theorem dX5_at_1 : decode cX5_at 1 = .ok (.ifCond .lt 15, 3) := by decide +kernel
theorem dX5_at_4 : decode cX5_at 4 = .ok (.iload_n 1, 1) := by decide +kernel
theorem dX5_at_5 : decode cX5_at 5 = .ok (.aload_n 0, 1) := by decide +kernel
theorem dX5_at_6 : decode cX5_at 6 = .ok (.arraylength, 1) := by decide +kernel
theorem dX5_at_7 : decode cX5_at 7 = .ok (.if_icmp .ge 9, 3) := by decide +kernel
theorem dX5_at_10 : decode cX5_at 10 = .ok (.aload_n 0, 1) := by decide +kernel
theorem dX5_at_11 : decode cX5_at 11 = .ok (.iload_n 1, 1) := by decide +kernel
theorem dX5_at_12 : decode cX5_at 12 = .ok (.iaload, 1) := by decide +kernel
theorem dX5_at_13 : decode cX5_at 13 = .ok (.goto 4, 3) := by decide +kernel
theorem dX5_at_16 : decode cX5_at 16 = .ok (.iconst 0, 1) := by decide +kernel
theorem dX5_at_17 : decode cX5_at 17 = .ok (.ireturn, 1) := by decide +kernel
theorem dX5_put_0 : decode cX5_put 0 = .ok (.iload_n 1, 1) := by decide +kernel
theorem dX5_put_1 : decode cX5_put 1 = .ok (.ifCond .lt 13, 3) := by decide +kernel
theorem dX5_put_4 : decode cX5_put 4 = .ok (.iload_n 1, 1) := by decide +kernel
theorem dX5_put_5 : decode cX5_put 5 = .ok (.aload_n 0, 1) := by decide +kernel
theorem dX5_put_6 : decode cX5_put 6 = .ok (.arraylength, 1) := by decide +kernel
theorem dX5_put_7 : decode cX5_put 7 = .ok (.if_icmp .ge 7, 3) := by decide +kernel
theorem dX5_put_10 : decode cX5_put 10 = .ok (.aload_n 0, 1) := by decide +kernel
theorem dX5_put_11 : decode cX5_put 11 = .ok (.iload_n 1, 1) := by decide +kernel
theorem dX5_put_12 : decode cX5_put 12 = .ok (.iload_n 2, 1) := by decide +kernel
theorem dX5_put_13 : decode cX5_put 13 = .ok (.iastore, 1) := by decide +kernel
theorem dX5_put_14 : decode cX5_put 14 = .ok (.return_, 1) := by decide +kernel
theorem dX5_power_0 : decode cX5_power 0 = .ok (.iconst 1, 1) := by decide +kernel
theorem dX5_power_1 : decode cX5_power 1 = .ok (.istore_n 2, 1) := by decide +kernel
theorem dX5_power_2 : decode cX5_power 2 = .ok (.iconst 0, 1) := by decide +kernel
theorem dX5_power_3 : decode cX5_power 3 = .ok (.istore_n 3, 1) := by decide +kernel
theorem dX5_power_4 : decode cX5_power 4 = .ok (.iload_n 3, 1) := by decide +kernel
theorem dX5_power_5 : decode cX5_power 5 = .ok (.iload_n 1, 1) := by decide +kernel
theorem dX5_power_6 : decode cX5_power 6 = .ok (.if_icmp .ge 13, 3) := by decide +kernel
theorem dX5_power_9 : decode cX5_power 9 = .ok (.iload_n 2, 1) := by decide +kernel
theorem dX5_power_10 : decode cX5_power 10 = .ok (.iload_n 0, 1) := by decide +kernel
theorem dX5_power_11 : decode cX5_power 11 = .ok (.imul, 1) := by decide +kernel
theorem dX5_power_12 : decode cX5_power 12 = .ok (.istore_n 2, 1) := by decide +kernel
theorem dX5_power_13 : decode cX5_power 13 = .ok (.iinc 3 1, 3) := by decide +kernel
theorem dX5_power_16 : decode cX5_power 16 = .ok (.goto (-12), 3) := by decide +kernel
theorem dX5_power_19 : decode cX5_power 19 = .ok (.iload_n 2, 1) := by decide +kernel
theorem dX5_power_20 : decode cX5_power 20 = .ok (.ireturn, 1) := by decide +kernel
theorem dX5_inLeastTerms_0 : decode cX5_inLeastTerms 0 = .ok (.iload_n 0, 1) := by decide +kernel
theorem dX5_inLeastTerms_1 : decode cX5_inLeastTerms 1 = .ok (.iload_n 1, 1) := by decide +kernel
theorem dX5_inLeastTerms_2 : decode cX5_inLeastTerms 2 = .ok (.invokestatic 254, 3) := by decide +kernel
theorem dX5_inLeastTerms_5 : decode cX5_inLeastTerms 5 = .ok (.istore_n 3, 1) := by decide +kernel
theorem dX5_inLeastTerms_6 : decode cX5_inLeastTerms 6 = .ok (.iload_n 2, 1) := by decide +kernel
theorem dX5_inLeastTerms_7 : decode cX5_inLeastTerms 7 = .ok (.ifCond .ne 7, 3) := by decide +kernel
theorem dX5_inLeastTerms_10 : decode cX5_inLeastTerms 10 = .ok (.iload_n 0, 1) := by decide +kernel
theorem dX5_inLeastTerms_11 : decode cX5_inLeastTerms 11 = .ok (.goto 4, 3) := by decide +kernel
theorem dX5_inLeastTerms_14 : decode cX5_inLeastTerms 14 = .ok (.iload_n 1, 1) := by decide +kernel
theorem dX5_inLeastTerms_15 : decode cX5_inLeastTerms 15 = .ok (.istore 4, 2) := by decide +kernel
theorem dX5_inLeastTerms_17 : decode cX5_inLeastTerms 17 = .ok (.iload_n 3, 1) := by decide +kernel
theorem dX5_inLeastTerms_18 : decode cX5_inLeastTerms 18 = .ok (.ifCond .le 10, 3) := by decide +kernel
theorem dX5_inLeastTerms_21 : decode cX5_inLeastTerms 21 = .ok (.iload 4, 2) := by decide +kernel
theorem dX5_inLeastTerms_23 : decode cX5_inLeastTerms 23 = .ok (.iload_n 3, 1) := by decide +kernel
theorem dX5_inLeastTerms_24 : decode cX5_inLeastTerms 24 = .ok (.idiv, 1) := by decide +kernel
theorem dX5_inLeastTerms_25 : decode cX5_inLeastTerms 25 = .ok (.goto 5, 3) := by decide +kernel
theorem dX5_inLeastTerms_28 : decode cX5_inLeastTerms 28 = .ok (.iload 4, 2) := by decide +kernel
theorem dX5_inLeastTerms_30 : decode cX5_inLeastTerms 30 = .ok (.ireturn, 1) := by decide +kernel
theorem dX5_commonDivisor_0 : decode cX5_commonDivisor 0 = .ok (.iload_n 0, 1) := by decide +kernel
theorem dX5_commonDivisor_1 : decode cX5_commonDivisor 1 = .ok (.istore_n 2, 1) := by decide +kernel
theorem dX5_commonDivisor_2 : decode cX5_commonDivisor 2 = .ok (.iload_n 1, 1) := by decide +kernel
theorem dX5_commonDivisor_3 : decode cX5_commonDivisor 3 = .ok (.istore_n 3, 1) := by decide +kernel
theorem dX5_commonDivisor_4 : decode cX5_commonDivisor 4 = .ok (.iconst 0, 1) := by decide +kernel
theorem dX5_commonDivisor_5 : decode cX5_commonDivisor 5 = .ok (.istore 4, 2) := by decide +kernel
theorem dX5_commonDivisor_7 : decode cX5_commonDivisor 7 = .ok (.iload 4, 2) := by decide +kernel
theorem dX5_commonDivisor_9 : decode cX5_commonDivisor 9 = .ok (.bipush 100, 2) := by decide +kernel
theorem dX5_commonDivisor_11 : decode cX5_commonDivisor 11 = .ok (.if_icmp .ge 23, 3) := by decide +kernel
theorem dX5_commonDivisor_14 : decode cX5_commonDivisor 14 = .ok (.iload_n 3, 1) := by decide +kernel
theorem dX5_commonDivisor_15 : decode cX5_commonDivisor 15 = .ok (.ifCond .le 19, 3) := by decide +kernel
theorem dX5_commonDivisor_18 : decode cX5_commonDivisor 18 = .ok (.iload_n 2, 1) := by decide +kernel
theorem dX5_commonDivisor_19 : decode cX5_commonDivisor 19 = .ok (.iload_n 3, 1) := by decide +kernel
theorem dX5_commonDivisor_20 : decode cX5_commonDivisor 20 = .ok (.irem, 1) := by decide +kernel
theorem dX5_commonDivisor_21 : decode cX5_commonDivisor 21 = .ok (.istore 5, 2) := by decide +kernel
theorem dX5_commonDivisor_23 : decode cX5_commonDivisor 23 = .ok (.iload_n 3, 1) := by decide +kernel
theorem dX5_commonDivisor_24 : decode cX5_commonDivisor 24 = .ok (.istore_n 2, 1) := by decide +kernel
theorem dX5_commonDivisor_25 : decode cX5_commonDivisor 25 = .ok (.iload 5, 2) := by decide +kernel
theorem dX5_commonDivisor_27 : decode cX5_commonDivisor 27 = .ok (.istore_n 3, 1) := by decide +kernel
theorem dX5_commonDivisor_28 : decode cX5_commonDivisor 28 = .ok (.iinc 4 1, 3) := by decide +kernel
theorem dX5_commonDivisor_31 : decode cX5_commonDivisor 31 = .ok (.goto (-24), 3) := by decide +kernel
theorem dX5_commonDivisor_34 : decode cX5_commonDivisor 34 = .ok (.iload_n 2, 1) := by decide +kernel
theorem dX5_commonDivisor_35 : decode cX5_commonDivisor 35 = .ok (.ireturn, 1) := by decide +kernel
theorem dX6_init_0 : decode cX6_init 0 = .ok (.aload_n 0, 1) := by decide +kernel
theorem dX6_init_1 : decode cX6_init 1 = .ok (.invokespecial 1, 3) := by decide +kernel
theorem dX6_init_4 : decode cX6_init 4 = .ok (.aload_n 0, 1) := by decide +kernel
theorem dX6_init_5 : decode cX6_init 5 = .ok (.sipush 200, 3) := by decide +kernel
theorem dX6_init_8 : decode cX6_init 8 = .ok (.newarray .int, 2) := by decide +kernel
theorem dX6_init_10 : decode cX6_init 10 = .ok (.putfield 7, 3) := by decide +kernel
theorem dX6_init_13 : decode cX6_init 13 = .ok (.aload_n 0, 1) := by decide +kernel
theorem dX6_init_14 : decode cX6_init 14 = .ok (.bipush 26, 2) := by decide +kernel
theorem dX6_init_16 : decode cX6_init 16 = .ok (.newarray .int, 2) := by decide +kernel
theorem dX6_init_18 : decode cX6_init 18 = .ok (.putfield 13, 3) := by decide +kernel
theorem dX6_init_21 : decode cX6_init 21 = .ok (.aload_n 0, 1) := by decide +kernel
theorem dX6_init_22 : decode cX6_init 22 = .ok (.bipush 26, 2) := by decide +kernel
theorem dX6_init_24 : decode cX6_init 24 = .ok (.newarray .int, 2) := by decide +kernel
theorem dX6_init_26 : decode cX6_init 26 = .ok (.putfield 16, 3) := by decide +kernel
theorem dX6_init_29 : decode cX6_init 29 = .ok (.aload_n 0, 1) := by decide +kernel
theorem dX6_init_30 : decode cX6_init 30 = .ok (.bipush 18, 2) := by decide +kernel
theorem dX6_init_32 : decode cX6_init 32 = .ok (.newarray .int, 2) := by decide +kernel
theorem dX6_init_34 : decode cX6_init 34 = .ok (.putfield 19, 3) := by decide +kernel
theorem dX6_init_37 : decode cX6_init 37 = .ok (.aload_n 0, 1) := by decide +kernel
theorem dX6_init_38 : decode cX6_init 38 = .ok (.sipush 180, 3) := by decide +kernel
theorem dX6_init_41 : decode cX6_init 41 = .ok (.newarray .int, 2) := by decide +kernel
theorem dX6_init_43 : decode cX6_init 43 = .ok (.putfield 22, 3) := by decide +kernel
theorem dX6_init_46 : decode cX6_init 46 = .ok (.aload_n 0, 1) := by decide +kernel
theorem dX6_init_47 : decode cX6_init 47 = .ok (.bipush 36, 2) := by decide +kernel
theorem dX6_init_49 : decode cX6_init 49 = .ok (.newarray .int, 2) := by decide +kernel
theorem dX6_init_51 : decode cX6_init 51 = .ok (.putfield 25, 3) := by decide +kernel
theorem dX6_init_54 : decode cX6_init 54 = .ok (.aload_n 0, 1) := by decide +kernel
theorem dX6_init_55 : decode cX6_init 55 = .ok (.iconst 2, 1) := by decide +kernel
theorem dX6_init_56 : decode cX6_init 56 = .ok (.newarray .boolean, 2) := by decide +kernel
theorem dX6_init_58 : decode cX6_init 58 = .ok (.putfield 28, 3) := by decide +kernel
theorem dX6_init_61 : decode cX6_init 61 = .ok (.aload_n 0, 1) := by decide +kernel
theorem dX6_init_62 : decode cX6_init 62 = .ok (.sipush 5040, 3) := by decide +kernel
theorem dX6_init_65 : decode cX6_init 65 = .ok (.newarray .int, 2) := by decide +kernel
theorem dX6_init_67 : decode cX6_init 67 = .ok (.putfield 32, 3) := by decide +kernel
theorem dX6_init_70 : decode cX6_init 70 = .ok (.aload_n 0, 1) := by decide +kernel
theorem dX6_init_71 : decode cX6_init 71 = .ok (.bipush 8, 2) := by decide +kernel
theorem dX6_init_73 : decode cX6_init 73 = .ok (.newarray .int, 2) := by decide +kernel
theorem dX6_init_75 : decode cX6_init 75 = .ok (.putfield 35, 3) := by decide +kernel
theorem dX6_init_78 : decode cX6_init 78 = .ok (.aload_n 0, 1) := by decide +kernel
theorem dX6_init_79 : decode cX6_init 79 = .ok (.bipush 8, 2) := by decide +kernel
theorem dX6_init_81 : decode cX6_init 81 = .ok (.newarray .int, 2) := by decide +kernel
theorem dX6_init_83 : decode cX6_init 83 = .ok (.putfield 38, 3) := by decide +kernel
theorem dX6_init_86 : decode cX6_init 86 = .ok (.aload_n 0, 1) := by decide +kernel
theorem dX6_init_87 : decode cX6_init 87 = .ok (.ldc 41, 2) := by decide +kernel
theorem dX6_init_89 : decode cX6_init 89 = .ok (.newarray .int, 2) := by decide +kernel
theorem dX6_init_91 : decode cX6_init 91 = .ok (.putfield 42, 3) := by decide +kernel
theorem dX6_init_94 : decode cX6_init 94 = .ok (.aload_n 0, 1) := by decide +kernel
theorem dX6_init_95 : decode cX6_init 95 = .ok (.invokevirtual 45, 3) := by decide +kernel
theorem dX6_init_98 : decode cX6_init 98 = .ok (.pop, 1) := by decide +kernel
theorem dX6_init_99 : decode cX6_init 99 = .ok (.aload_n 0, 1) := by decide +kernel
theorem dX6_init_100 : decode cX6_init 100 = .ok (.invokevirtual 49, 3) := by decide +kernel
theorem dX6_init_103 : decode cX6_init 103 = .ok (.return_, 1) := by decide +kernel
theorem dX6_in_0 : decode cX6_in 0 = .ok (.iload_n 0, 1) := by decide +kernel
theorem dX6_in_1 : decode cX6_in 1 = .ok (.iload_n 1, 1) := by decide +kernel
theorem dX6_in_2 : decode cX6_in 2 = .ok (.if_icmp .lt 12, 3) := by decide +kernel
theorem dX6_in_5 : decode cX6_in 5 = .ok (.iload_n 0, 1) := by decide +kernel
theorem dX6_in_6 : decode cX6_in 6 = .ok (.iload_n 2, 1) := by decide +kernel
theorem dX6_in_7 : decode cX6_in 7 = .ok (.if_icmp .gt 7, 3) := by decide +kernel
theorem dX6_in_10 : decode cX6_in 10 = .ok (.iconst 1, 1) := by decide +kernel
theorem dX6_in_11 : decode cX6_in 11 = .ok (.goto 4, 3) := by decide +kernel
theorem dX6_in_14 : decode cX6_in 14 = .ok (.iconst 0, 1) := by decide +kernel
theorem dX6_in_15 : decode cX6_in 15 = .ok (.ireturn, 1) := by decide +kernel
theorem dX6_isSailor_0 : decode cX6_isSailor 0 = .ok (.iload_n 1, 1) := by decide +kernel
theorem dX6_isSailor_1 : decode cX6_isSailor 1 = .ok (.iconst 0, 1) := by decide +kernel
theorem dX6_isSailor_2 : decode cX6_isSailor 2 = .ok (.aload_n 0, 1) := by decide +kernel
theorem dX6_isSailor_3 : decode cX6_isSailor 3 = .ok (.getfield 13, 3) := by decide +kernel
theorem dX6_isSailor_6 : decode cX6_isSailor 6 = .ok (.iconst 0, 1) := by decide +kernel
theorem dX6_isSailor_7 : decode cX6_isSailor 7 = .ok (.iaload, 1) := by decide +kernel
theorem dX6_isSailor_8 : decode cX6_isSailor 8 = .ok (.iconst 1, 1) := by decide +kernel
theorem dX6_isSailor_9 : decode cX6_isSailor 9 = .ok (.isub, 1) := by decide +kernel
theorem dX6_isSailor_10 : decode cX6_isSailor 10 = .ok (.invokestatic 52, 3) := by decide +kernel
theorem dX6_isSailor_13 : decode cX6_isSailor 13 = .ok (.ireturn, 1) := by decide +kernel
theorem dX6_isSeat_0 : decode cX6_isSeat 0 = .ok (.iload_n 1, 1) := by decide +kernel
theorem dX6_isSeat_1 : decode cX6_isSeat 1 = .ok (.iconst 0, 1) := by decide +kernel
theorem dX6_isSeat_2 : decode cX6_isSeat 2 = .ok (.aload_n 0, 1) := by decide +kernel
theorem dX6_isSeat_3 : decode cX6_isSeat 3 = .ok (.getfield 13, 3) := by decide +kernel
theorem dX6_isSeat_6 : decode cX6_isSeat 6 = .ok (.iconst 2, 1) := by decide +kernel
theorem dX6_isSeat_7 : decode cX6_isSeat 7 = .ok (.iaload, 1) := by decide +kernel
theorem dX6_isSeat_8 : decode cX6_isSeat 8 = .ok (.iconst 1, 1) := by decide +kernel
theorem dX6_isSeat_9 : decode cX6_isSeat 9 = .ok (.isub, 1) := by decide +kernel
theorem dX6_isSeat_10 : decode cX6_isSeat 10 = .ok (.invokestatic 52, 3) := by decide +kernel
theorem dX6_isSeat_13 : decode cX6_isSeat 13 = .ok (.ireturn, 1) := by decide +kernel
theorem dX6_ones_0 : decode cX6_ones 0 = .ok (.iconst 0, 1) := by decide +kernel
theorem dX6_ones_1 : decode cX6_ones 1 = .ok (.istore_n 1, 1) := by decide +kernel
theorem dX6_ones_2 : decode cX6_ones 2 = .ok (.iconst 0, 1) := by decide +kernel
theorem dX6_ones_3 : decode cX6_ones 3 = .ok (.istore_n 2, 1) := by decide +kernel
theorem dX6_ones_4 : decode cX6_ones 4 = .ok (.iload_n 2, 1) := by decide +kernel
theorem dX6_ones_5 : decode cX6_ones 5 = .ok (.bipush 8, 2) := by decide +kernel
theorem dX6_ones_7 : decode cX6_ones 7 = .ok (.if_icmp .ge 17, 3) := by decide +kernel
theorem dX6_ones_10 : decode cX6_ones 10 = .ok (.iload_n 1, 1) := by decide +kernel
theorem dX6_ones_11 : decode cX6_ones 11 = .ok (.iload_n 0, 1) := by decide +kernel
theorem dX6_ones_12 : decode cX6_ones 12 = .ok (.iload_n 2, 1) := by decide +kernel
theorem dX6_ones_13 : decode cX6_ones 13 = .ok (.ishr, 1) := by decide +kernel
theorem dX6_ones_14 : decode cX6_ones 14 = .ok (.iconst 1, 1) := by decide +kernel
theorem dX6_ones_15 : decode cX6_ones 15 = .ok (.iand, 1) := by decide +kernel
theorem dX6_ones_16 : decode cX6_ones 16 = .ok (.iadd, 1) := by decide +kernel
theorem dX6_ones_17 : decode cX6_ones 17 = .ok (.istore_n 1, 1) := by decide +kernel
theorem dX6_ones_18 : decode cX6_ones 18 = .ok (.iinc 2 1, 3) := by decide +kernel
theorem dX6_ones_21 : decode cX6_ones 21 = .ok (.goto (-17), 3) := by decide +kernel
theorem dX6_ones_24 : decode cX6_ones 24 = .ok (.iload_n 1, 1) := by decide +kernel
theorem dX6_ones_25 : decode cX6_ones 25 = .ok (.ireturn, 1) := by decide +kernel
theorem dX6_type_0 : decode cX6_type 0 = .ok (.iload_n 1, 1) := by decide +kernel
theorem dX6_type_1 : decode cX6_type 1 = .ok (.iconst 0, 1) := by decide +kernel
theorem dX6_type_2 : decode cX6_type 2 = .ok (.sipush 255, 3) := by decide +kernel
theorem dX6_type_5 : decode cX6_type 5 = .ok (.invokestatic 52, 3) := by decide +kernel
theorem dX6_type_8 : decode cX6_type 8 = .ok (.ifCond .ne 5, 3) := by decide +kernel
theorem dX6_type_11 : decode cX6_type 11 = .ok (.iconst (-1), 1) := by decide +kernel
theorem dX6_type_12 : decode cX6_type 12 = .ok (.ireturn, 1) := by decide +kernel
theorem dX6_type_13 : decode cX6_type 13 = .ok (.aload_n 0, 1) := by decide +kernel
theorem dX6_type_14 : decode cX6_type 14 = .ok (.getfield 56, 3) := by decide +kernel
theorem dX6_type_17 : decode cX6_type 17 = .ok (.sipush 200, 3) := by decide +kernel
theorem dX6_type_20 : decode cX6_type 20 = .ok (.if_icmp .ne 6, 3) := by decide +kernel
theorem dX6_type_23 : decode cX6_type 23 = .ok (.bipush (-3), 2) := by decide +kernel
theorem dX6_type_25 : decode cX6_type 25 = .ok (.ireturn, 1) := by decide +kernel
theorem dX6_type_26 : decode cX6_type 26 = .ok (.aload_n 0, 1) := by decide +kernel
theorem dX6_type_27 : decode cX6_type 27 = .ok (.getfield 7, 3) := by decide +kernel
theorem dX6_type_30 : decode cX6_type 30 = .ok (.aload_n 0, 1) := by decide +kernel
theorem dX6_type_31 : decode cX6_type 31 = .ok (.getfield 56, 3) := by decide +kernel
theorem dX6_type_34 : decode cX6_type 34 = .ok (.iload_n 1, 1) := by decide +kernel
theorem dX6_type_35 : decode cX6_type 35 = .ok (.iastore, 1) := by decide +kernel
theorem dX6_type_36 : decode cX6_type 36 = .ok (.aload_n 0, 1) := by decide +kernel
theorem dX6_type_37 : decode cX6_type 37 = .ok (.dup, 1) := by decide +kernel
theorem dX6_type_38 : decode cX6_type 38 = .ok (.getfield 56, 3) := by decide +kernel
theorem dX6_type_41 : decode cX6_type 41 = .ok (.iconst 1, 1) := by decide +kernel
theorem dX6_type_42 : decode cX6_type 42 = .ok (.iadd, 1) := by decide +kernel
theorem dX6_type_43 : decode cX6_type 43 = .ok (.putfield 56, 3) := by decide +kernel
theorem dX6_type_46 : decode cX6_type 46 = .ok (.aload_n 0, 1) := by decide +kernel
theorem dX6_type_47 : decode cX6_type 47 = .ok (.getfield 56, 3) := by decide +kernel
theorem dX6_type_50 : decode cX6_type 50 = .ok (.ireturn, 1) := by decide +kernel
theorem dX6_clear_0 : decode cX6_clear 0 = .ok (.aload_n 0, 1) := by decide +kernel
theorem dX6_clear_1 : decode cX6_clear 1 = .ok (.getfield 56, 3) := by decide +kernel
theorem dX6_clear_4 : decode cX6_clear 4 = .ok (.istore_n 1, 1) := by decide +kernel
theorem dX6_clear_5 : decode cX6_clear 5 = .ok (.aload_n 0, 1) := by decide +kernel
theorem dX6_clear_6 : decode cX6_clear 6 = .ok (.iconst 0, 1) := by decide +kernel
theorem dX6_clear_7 : decode cX6_clear 7 = .ok (.putfield 56, 3) := by decide +kernel
theorem dX6_clear_10 : decode cX6_clear 10 = .ok (.iload_n 1, 1) := by decide +kernel
theorem dX6_clear_11 : decode cX6_clear 11 = .ok (.ireturn, 1) := by decide +kernel
theorem dX6_letterAt_0 : decode cX6_letterAt 0 = .ok (.iload_n 1, 1) := by decide +kernel
theorem dX6_letterAt_1 : decode cX6_letterAt 1 = .ok (.aload_n 0, 1) := by decide +kernel
theorem dX6_letterAt_2 : decode cX6_letterAt 2 = .ok (.getfield 56, 3) := by decide +kernel
theorem dX6_letterAt_5 : decode cX6_letterAt 5 = .ok (.if_icmp .ge 12, 3) := by decide +kernel
theorem dX6_letterAt_8 : decode cX6_letterAt 8 = .ok (.aload_n 0, 1) := by decide +kernel
theorem dX6_letterAt_9 : decode cX6_letterAt 9 = .ok (.getfield 7, 3) := by decide +kernel
theorem dX6_letterAt_12 : decode cX6_letterAt 12 = .ok (.iload_n 1, 1) := by decide +kernel
theorem dX6_letterAt_13 : decode cX6_letterAt 13 = .ok (.iaload, 1) := by decide +kernel
theorem dX6_letterAt_14 : decode cX6_letterAt 14 = .ok (.goto 4, 3) := by decide +kernel
theorem dX6_letterAt_17 : decode cX6_letterAt 17 = .ok (.iconst (-1), 1) := by decide +kernel
theorem dX6_letterAt_18 : decode cX6_letterAt 18 = .ok (.ireturn, 1) := by decide +kernel
theorem dX6_isDigit_0 : decode cX6_isDigit 0 = .ok (.iload_n 0, 1) := by decide +kernel
theorem dX6_isDigit_1 : decode cX6_isDigit 1 = .ok (.bipush 48, 2) := by decide +kernel
theorem dX6_isDigit_3 : decode cX6_isDigit 3 = .ok (.bipush 57, 2) := by decide +kernel
theorem dX6_isDigit_5 : decode cX6_isDigit 5 = .ok (.invokestatic 52, 3) := by decide +kernel
theorem dX6_isDigit_8 : decode cX6_isDigit 8 = .ok (.ireturn, 1) := by decide +kernel
theorem dX6_token_0 : decode cX6_token 0 = .ok (.aload_n 0, 1) := by decide +kernel
theorem dX6_token_1 : decode cX6_token 1 = .ok (.aload_n 0, 1) := by decide +kernel
theorem dX6_token_2 : decode cX6_token 2 = .ok (.getfield 60, 3) := by decide +kernel
theorem dX6_token_5 : decode cX6_token 5 = .ok (.invokevirtual 63, 3) := by decide +kernel
theorem dX6_token_8 : decode cX6_token 8 = .ok (.bipush 32, 2) := by decide +kernel
theorem dX6_token_10 : decode cX6_token 10 = .ok (.if_icmp .ne 16, 3) := by decide +kernel
theorem dX6_token_13 : decode cX6_token 13 = .ok (.aload_n 0, 1) := by decide +kernel
theorem dX6_token_14 : decode cX6_token 14 = .ok (.dup, 1) := by decide +kernel
theorem dX6_token_15 : decode cX6_token 15 = .ok (.getfield 60, 3) := by decide +kernel
theorem dX6_token_18 : decode cX6_token 18 = .ok (.iconst 1, 1) := by decide +kernel
theorem dX6_token_19 : decode cX6_token 19 = .ok (.iadd, 1) := by decide +kernel
theorem dX6_token_20 : decode cX6_token 20 = .ok (.putfield 60, 3) := by decide +kernel
theorem dX6_token_23 : decode cX6_token 23 = .ok (.goto (-23), 3) := by decide +kernel
theorem dX6_token_26 : decode cX6_token 26 = .ok (.aload_n 0, 1) := by decide +kernel
theorem dX6_token_27 : decode cX6_token 27 = .ok (.aload_n 0, 1) := by decide +kernel
theorem dX6_token_28 : decode cX6_token 28 = .ok (.getfield 60, 3) := by decide +kernel
theorem dX6_token_31 : decode cX6_token 31 = .ok (.putfield 67, 3) := by decide +kernel
theorem dX6_token_34 : decode cX6_token 34 = .ok (.aload_n 0, 1) := by decide +kernel
theorem dX6_token_35 : decode cX6_token 35 = .ok (.aload_n 0, 1) := by decide +kernel
theorem dX6_token_36 : decode cX6_token 36 = .ok (.getfield 60, 3) := by decide +kernel
theorem dX6_token_39 : decode cX6_token 39 = .ok (.invokevirtual 63, 3) := by decide +kernel
theorem dX6_token_42 : decode cX6_token 42 = .ok (.istore_n 1, 1) := by decide +kernel
theorem dX6_token_43 : decode cX6_token 43 = .ok (.aload_n 0, 1) := by decide +kernel
theorem dX6_token_44 : decode cX6_token 44 = .ok (.iload_n 1, 1) := by decide +kernel
theorem dX6_token_45 : decode cX6_token 45 = .ok (.ifCond .ge 7, 3) := by decide +kernel
theorem dX6_token_48 : decode cX6_token 48 = .ok (.iconst 0, 1) := by decide +kernel
theorem dX6_token_49 : decode cX6_token 49 = .ok (.goto 47, 3) := by decide +kernel
theorem dX6_token_52 : decode cX6_token 52 = .ok (.iload_n 1, 1) := by decide +kernel
theorem dX6_token_53 : decode cX6_token 53 = .ok (.bipush 115, 2) := by decide +kernel
theorem dX6_token_55 : decode cX6_token 55 = .ok (.if_icmp .eq 15, 3) := by decide +kernel
theorem dX6_token_58 : decode cX6_token 58 = .ok (.iload_n 1, 1) := by decide +kernel
theorem dX6_token_59 : decode cX6_token 59 = .ok (.bipush 100, 2) := by decide +kernel
theorem dX6_token_61 : decode cX6_token 61 = .ok (.if_icmp .eq 9, 3) := by decide +kernel
theorem dX6_token_64 : decode cX6_token 64 = .ok (.iload_n 1, 1) := by decide +kernel
theorem dX6_token_65 : decode cX6_token 65 = .ok (.bipush 110, 2) := by decide +kernel
theorem dX6_token_67 : decode cX6_token 67 = .ok (.if_icmp .ne 7, 3) := by decide +kernel
theorem dX6_token_70 : decode cX6_token 70 = .ok (.iconst 1, 1) := by decide +kernel
theorem dX6_token_71 : decode cX6_token 71 = .ok (.goto 25, 3) := by decide +kernel
theorem dX6_token_74 : decode cX6_token 74 = .ok (.iload_n 1, 1) := by decide +kernel
theorem dX6_token_75 : decode cX6_token 75 = .ok (.invokestatic 70, 3) := by decide +kernel
theorem dX6_token_78 : decode cX6_token 78 = .ok (.ifCond .eq 7, 3) := by decide +kernel
theorem dX6_token_81 : decode cX6_token 81 = .ok (.iconst 2, 1) := by decide +kernel
theorem dX6_token_82 : decode cX6_token 82 = .ok (.goto 14, 3) := by decide +kernel
theorem dX6_token_85 : decode cX6_token 85 = .ok (.iload_n 1, 1) := by decide +kernel
theorem dX6_token_86 : decode cX6_token 86 = .ok (.bipush 59, 2) := by decide +kernel
theorem dX6_token_88 : decode cX6_token 88 = .ok (.if_icmp .ne 7, 3) := by decide +kernel
theorem dX6_token_91 : decode cX6_token 91 = .ok (.iconst 3, 1) := by decide +kernel
theorem dX6_token_92 : decode cX6_token 92 = .ok (.goto 4, 3) := by decide +kernel
theorem dX6_token_95 : decode cX6_token 95 = .ok (.iconst 4, 1) := by decide +kernel
theorem dX6_token_96 : decode cX6_token 96 = .ok (.putfield 74, 3) := by decide +kernel
theorem dX6_token_99 : decode cX6_token 99 = .ok (.aload_n 0, 1) := by decide +kernel
theorem dX6_token_100 : decode cX6_token 100 = .ok (.iload_n 1, 1) := by decide +kernel
theorem dX6_token_101 : decode cX6_token 101 = .ok (.putfield 77, 3) := by decide +kernel
theorem dX6_token_104 : decode cX6_token 104 = .ok (.aload_n 0, 1) := by decide +kernel
theorem dX6_token_105 : decode cX6_token 105 = .ok (.dup, 1) := by decide +kernel
theorem dX6_token_106 : decode cX6_token 106 = .ok (.getfield 60, 3) := by decide +kernel
theorem dX6_token_109 : decode cX6_token 109 = .ok (.aload_n 0, 1) := by decide +kernel
theorem dX6_token_110 : decode cX6_token 110 = .ok (.getfield 74, 3) := by decide +kernel
theorem dX6_token_113 : decode cX6_token 113 = .ok (.ifCond .ne 7, 3) := by decide +kernel
theorem dX6_token_116 : decode cX6_token 116 = .ok (.iconst 0, 1) := by decide +kernel
theorem dX6_token_117 : decode cX6_token 117 = .ok (.goto 4, 3) := by decide +kernel
theorem dX6_token_120 : decode cX6_token 120 = .ok (.iconst 1, 1) := by decide +kernel
theorem dX6_token_121 : decode cX6_token 121 = .ok (.iadd, 1) := by decide +kernel
theorem dX6_token_122 : decode cX6_token 122 = .ok (.putfield 60, 3) := by decide +kernel
theorem dX6_token_125 : decode cX6_token 125 = .ok (.aload_n 0, 1) := by decide +kernel
theorem dX6_token_126 : decode cX6_token 126 = .ok (.getfield 74, 3) := by decide +kernel
theorem dX6_token_129 : decode cX6_token 129 = .ok (.iconst 2, 1) := by decide +kernel
theorem dX6_token_130 : decode cX6_token 130 = .ok (.if_icmp .ne 83, 3) := by decide +kernel
theorem dX6_token_133 : decode cX6_token 133 = .ok (.aload_n 0, 1) := by decide +kernel
theorem dX6_token_134 : decode cX6_token 134 = .ok (.iload_n 1, 1) := by decide +kernel
theorem dX6_token_135 : decode cX6_token 135 = .ok (.bipush 48, 2) := by decide +kernel
theorem dX6_token_137 : decode cX6_token 137 = .ok (.isub, 1) := by decide +kernel
theorem dX6_token_138 : decode cX6_token 138 = .ok (.putfield 77, 3) := by decide +kernel
theorem dX6_token_141 : decode cX6_token 141 = .ok (.aload_n 0, 1) := by decide +kernel
theorem dX6_token_142 : decode cX6_token 142 = .ok (.aload_n 0, 1) := by decide +kernel
theorem dX6_token_143 : decode cX6_token 143 = .ok (.getfield 60, 3) := by decide +kernel
theorem dX6_token_146 : decode cX6_token 146 = .ok (.invokevirtual 63, 3) := by decide +kernel
theorem dX6_token_149 : decode cX6_token 149 = .ok (.invokestatic 70, 3) := by decide +kernel
theorem dX6_token_152 : decode cX6_token 152 = .ok (.ifCond .eq 61, 3) := by decide +kernel
theorem dX6_token_155 : decode cX6_token 155 = .ok (.aload_n 0, 1) := by decide +kernel
theorem dX6_token_156 : decode cX6_token 156 = .ok (.iload_n 1, 1) := by decide +kernel
theorem dX6_token_157 : decode cX6_token 157 = .ok (.bipush 48, 2) := by decide +kernel
theorem dX6_token_159 : decode cX6_token 159 = .ok (.if_icmp .eq 12, 3) := by decide +kernel
theorem dX6_token_162 : decode cX6_token 162 = .ok (.aload_n 0, 1) := by decide +kernel
theorem dX6_token_163 : decode cX6_token 163 = .ok (.getfield 77, 3) := by decide +kernel
theorem dX6_token_166 : decode cX6_token 166 = .ok (.bipush 127, 2) := by decide +kernel
theorem dX6_token_168 : decode cX6_token 168 = .ok (.if_icmp .le 9, 3) := by decide +kernel
theorem dX6_token_171 : decode cX6_token 171 = .ok (.sipush 1000, 3) := by decide +kernel
theorem dX6_token_174 : decode cX6_token 174 = .ok (.goto 23, 3) := by decide +kernel
theorem dX6_token_177 : decode cX6_token 177 = .ok (.bipush 10, 2) := by decide +kernel
theorem dX6_token_179 : decode cX6_token 179 = .ok (.aload_n 0, 1) := by decide +kernel
theorem dX6_token_180 : decode cX6_token 180 = .ok (.getfield 77, 3) := by decide +kernel
theorem dX6_token_183 : decode cX6_token 183 = .ok (.imul, 1) := by decide +kernel
theorem dX6_token_184 : decode cX6_token 184 = .ok (.aload_n 0, 1) := by decide +kernel
theorem dX6_token_185 : decode cX6_token 185 = .ok (.getfield 7, 3) := by decide +kernel
theorem dX6_token_188 : decode cX6_token 188 = .ok (.aload_n 0, 1) := by decide +kernel
theorem dX6_token_189 : decode cX6_token 189 = .ok (.getfield 60, 3) := by decide +kernel
theorem dX6_token_192 : decode cX6_token 192 = .ok (.iaload, 1) := by decide +kernel
theorem dX6_token_193 : decode cX6_token 193 = .ok (.iadd, 1) := by decide +kernel
theorem dX6_token_194 : decode cX6_token 194 = .ok (.bipush 48, 2) := by decide +kernel
theorem dX6_token_196 : decode cX6_token 196 = .ok (.isub, 1) := by decide +kernel
theorem dX6_token_197 : decode cX6_token 197 = .ok (.putfield 77, 3) := by decide +kernel
theorem dX6_token_200 : decode cX6_token 200 = .ok (.aload_n 0, 1) := by decide +kernel
theorem dX6_token_201 : decode cX6_token 201 = .ok (.dup, 1) := by decide +kernel
theorem dX6_token_202 : decode cX6_token 202 = .ok (.getfield 60, 3) := by decide +kernel
theorem dX6_token_205 : decode cX6_token 205 = .ok (.iconst 1, 1) := by decide +kernel
theorem dX6_token_206 : decode cX6_token 206 = .ok (.iadd, 1) := by decide +kernel
theorem dX6_token_207 : decode cX6_token 207 = .ok (.putfield 60, 3) := by decide +kernel
theorem dX6_token_210 : decode cX6_token 210 = .ok (.goto (-69), 3) := by decide +kernel
theorem dX6_token_213 : decode cX6_token 213 = .ok (.return_, 1) := by decide +kernel
theorem dX6_number_0 : decode cX6_number 0 = .ok (.aload_n 0, 1) := by decide +kernel
theorem dX6_number_1 : decode cX6_number 1 = .ok (.invokevirtual 80, 3) := by decide +kernel
theorem dX6_number_4 : decode cX6_number 4 = .ok (.aload_n 0, 1) := by decide +kernel
theorem dX6_number_5 : decode cX6_number 5 = .ok (.getfield 16, 3) := by decide +kernel
theorem dX6_number_8 : decode cX6_number 8 = .ok (.iload_n 1, 1) := by decide +kernel
theorem dX6_number_9 : decode cX6_number 9 = .ok (.aload_n 0, 1) := by decide +kernel
theorem dX6_number_10 : decode cX6_number 10 = .ok (.getfield 77, 3) := by decide +kernel
theorem dX6_number_13 : decode cX6_number 13 = .ok (.iastore, 1) := by decide +kernel
theorem dX6_number_14 : decode cX6_number 14 = .ok (.aload_n 0, 1) := by decide +kernel
theorem dX6_number_15 : decode cX6_number 15 = .ok (.getfield 74, 3) := by decide +kernel
theorem dX6_number_18 : decode cX6_number 18 = .ok (.iconst 2, 1) := by decide +kernel
theorem dX6_number_19 : decode cX6_number 19 = .ok (.if_icmp .ne 19, 3) := by decide +kernel
theorem dX6_number_22 : decode cX6_number 22 = .ok (.aload_n 0, 1) := by decide +kernel
theorem dX6_number_23 : decode cX6_number 23 = .ok (.getfield 77, 3) := by decide +kernel
theorem dX6_number_26 : decode cX6_number 26 = .ok (.iload_n 2, 1) := by decide +kernel
theorem dX6_number_27 : decode cX6_number 27 = .ok (.iload_n 3, 1) := by decide +kernel
theorem dX6_number_28 : decode cX6_number 28 = .ok (.invokestatic 52, 3) := by decide +kernel
theorem dX6_number_31 : decode cX6_number 31 = .ok (.ifCond .eq 7, 3) := by decide +kernel
theorem dX6_number_34 : decode cX6_number 34 = .ok (.iconst 1, 1) := by decide +kernel
theorem dX6_number_35 : decode cX6_number 35 = .ok (.goto 4, 3) := by decide +kernel
theorem dX6_number_38 : decode cX6_number 38 = .ok (.iconst 0, 1) := by decide +kernel
theorem dX6_number_39 : decode cX6_number 39 = .ok (.ireturn, 1) := by decide +kernel
theorem dX6_once_0 : decode cX6_once 0 = .ok (.aload_n 0, 1) := by decide +kernel
theorem dX6_once_1 : decode cX6_once 1 = .ok (.getfield 16, 3) := by decide +kernel
theorem dX6_once_4 : decode cX6_once 4 = .ok (.iconst 4, 1) := by decide +kernel
theorem dX6_once_5 : decode cX6_once 5 = .ok (.iaload, 1) := by decide +kernel
theorem dX6_once_6 : decode cX6_once 6 = .ok (.iload_n 1, 1) := by decide +kernel
theorem dX6_once_7 : decode cX6_once 7 = .ok (.iand, 1) := by decide +kernel
theorem dX6_once_8 : decode cX6_once 8 = .ok (.ifCond .eq 5, 3) := by decide +kernel
theorem dX6_once_11 : decode cX6_once 11 = .ok (.iconst 0, 1) := by decide +kernel
theorem dX6_once_12 : decode cX6_once 12 = .ok (.ireturn, 1) := by decide +kernel
theorem dX6_once_13 : decode cX6_once 13 = .ok (.aload_n 0, 1) := by decide +kernel
theorem dX6_once_14 : decode cX6_once 14 = .ok (.getfield 16, 3) := by decide +kernel
theorem dX6_once_17 : decode cX6_once 17 = .ok (.iconst 4, 1) := by decide +kernel
theorem dX6_once_18 : decode cX6_once 18 = .ok (.dup2, 1) := by decide +kernel
theorem dX6_once_19 : decode cX6_once 19 = .ok (.iaload, 1) := by decide +kernel
theorem dX6_once_20 : decode cX6_once 20 = .ok (.iload_n 1, 1) := by decide +kernel
theorem dX6_once_21 : decode cX6_once 21 = .ok (.ior, 1) := by decide +kernel
theorem dX6_once_22 : decode cX6_once 22 = .ok (.iastore, 1) := by decide +kernel
theorem dX6_once_23 : decode cX6_once 23 = .ok (.aload_n 0, 1) := by decide +kernel
theorem dX6_once_24 : decode cX6_once 24 = .ok (.iload_n 2, 1) := by decide +kernel
theorem dX6_once_25 : decode cX6_once 25 = .ok (.iconst 1, 1) := by decide +kernel
theorem dX6_once_26 : decode cX6_once 26 = .ok (.iload_n 3, 1) := by decide +kernel
theorem dX6_once_27 : decode cX6_once 27 = .ok (.invokevirtual 83, 3) := by decide +kernel
theorem dX6_once_30 : decode cX6_once 30 = .ok (.ireturn, 1) := by decide +kernel
theorem dX6_readsItem_0 : decode cX6_readsItem 0 = .ok (.aload_n 0, 1) := by decide +kernel
theorem dX6_readsItem_1 : decode cX6_readsItem 1 = .ok (.getfield 74, 3) := by decide +kernel
theorem dX6_readsItem_4 : decode cX6_readsItem 4 = .ok (.iconst 1, 1) := by decide +kernel
theorem dX6_readsItem_5 : decode cX6_readsItem 5 = .ok (.if_icmp .ne 10, 3) := by decide +kernel
theorem dX6_readsItem_8 : decode cX6_readsItem 8 = .ok (.aload_n 0, 1) := by decide +kernel
theorem dX6_readsItem_9 : decode cX6_readsItem 9 = .ok (.getfield 77, 3) := by decide +kernel
theorem dX6_readsItem_12 : decode cX6_readsItem 12 = .ok (.goto 4, 3) := by decide +kernel
theorem dX6_readsItem_15 : decode cX6_readsItem 15 = .ok (.iconst 0, 1) := by decide +kernel
theorem dX6_readsItem_16 : decode cX6_readsItem 16 = .ok (.istore_n 1, 1) := by decide +kernel
theorem dX6_readsItem_17 : decode cX6_readsItem 17 = .ok (.iload_n 1, 1) := by decide +kernel
theorem dX6_readsItem_18 : decode cX6_readsItem 18 = .ok (.bipush 115, 2) := by decide +kernel
theorem dX6_readsItem_20 : decode cX6_readsItem 20 = .ok (.if_icmp .ne 70, 3) := by decide +kernel
theorem dX6_readsItem_23 : decode cX6_readsItem 23 = .ok (.aload_n 0, 1) := by decide +kernel
theorem dX6_readsItem_24 : decode cX6_readsItem 24 = .ok (.getfield 16, 3) := by decide +kernel
theorem dX6_readsItem_27 : decode cX6_readsItem 27 = .ok (.iconst 0, 1) := by decide +kernel
theorem dX6_readsItem_28 : decode cX6_readsItem 28 = .ok (.iaload, 1) := by decide +kernel
theorem dX6_readsItem_29 : decode cX6_readsItem 29 = .ok (.istore_n 2, 1) := by decide +kernel
theorem dX6_readsItem_30 : decode cX6_readsItem 30 = .ok (.iload_n 2, 1) := by decide +kernel
theorem dX6_readsItem_31 : decode cX6_readsItem 31 = .ok (.bipush 7, 2) := by decide +kernel
theorem dX6_readsItem_33 : decode cX6_readsItem 33 = .ok (.if_icmp .eq 43, 3) := by decide +kernel
theorem dX6_readsItem_36 : decode cX6_readsItem 36 = .ok (.aload_n 0, 1) := by decide +kernel
theorem dX6_readsItem_37 : decode cX6_readsItem 37 = .ok (.iconst 5, 1) := by decide +kernel
theorem dX6_readsItem_38 : decode cX6_readsItem 38 = .ok (.iload_n 2, 1) := by decide +kernel
theorem dX6_readsItem_39 : decode cX6_readsItem 39 = .ok (.iadd, 1) := by decide +kernel
theorem dX6_readsItem_40 : decode cX6_readsItem 40 = .ok (.iconst 0, 1) := by decide +kernel
theorem dX6_readsItem_41 : decode cX6_readsItem 41 = .ok (.iconst 2, 1) := by decide +kernel
theorem dX6_readsItem_42 : decode cX6_readsItem 42 = .ok (.invokevirtual 83, 3) := by decide +kernel
theorem dX6_readsItem_45 : decode cX6_readsItem 45 = .ok (.ifCond .eq 31, 3) := by decide +kernel
theorem dX6_readsItem_48 : decode cX6_readsItem 48 = .ok (.aload_n 0, 1) := by decide +kernel
theorem dX6_readsItem_49 : decode cX6_readsItem 49 = .ok (.bipush 12, 2) := by decide +kernel
theorem dX6_readsItem_51 : decode cX6_readsItem 51 = .ok (.iload_n 2, 1) := by decide +kernel
theorem dX6_readsItem_52 : decode cX6_readsItem 52 = .ok (.iadd, 1) := by decide +kernel
theorem dX6_readsItem_53 : decode cX6_readsItem 53 = .ok (.iconst 0, 1) := by decide +kernel
theorem dX6_readsItem_54 : decode cX6_readsItem 54 = .ok (.bipush 7, 2) := by decide +kernel
theorem dX6_readsItem_56 : decode cX6_readsItem 56 = .ok (.invokevirtual 83, 3) := by decide +kernel
theorem dX6_readsItem_59 : decode cX6_readsItem 59 = .ok (.ifCond .eq 17, 3) := by decide +kernel
theorem dX6_readsItem_62 : decode cX6_readsItem 62 = .ok (.aload_n 0, 1) := by decide +kernel
theorem dX6_readsItem_63 : decode cX6_readsItem 63 = .ok (.bipush 19, 2) := by decide +kernel
theorem dX6_readsItem_65 : decode cX6_readsItem 65 = .ok (.iload_n 2, 1) := by decide +kernel
theorem dX6_readsItem_66 : decode cX6_readsItem 66 = .ok (.iadd, 1) := by decide +kernel
theorem dX6_readsItem_67 : decode cX6_readsItem 67 = .ok (.iconst 0, 1) := by decide +kernel
theorem dX6_readsItem_68 : decode cX6_readsItem 68 = .ok (.bipush 127, 2) := by decide +kernel
theorem dX6_readsItem_70 : decode cX6_readsItem 70 = .ok (.invokevirtual 83, 3) := by decide +kernel
theorem dX6_readsItem_73 : decode cX6_readsItem 73 = .ok (.ifCond .ne 5, 3) := by decide +kernel
theorem dX6_readsItem_76 : decode cX6_readsItem 76 = .ok (.iconst 0, 1) := by decide +kernel
theorem dX6_readsItem_77 : decode cX6_readsItem 77 = .ok (.ireturn, 1) := by decide +kernel
theorem dX6_readsItem_78 : decode cX6_readsItem 78 = .ok (.aload_n 0, 1) := by decide +kernel
theorem dX6_readsItem_79 : decode cX6_readsItem 79 = .ok (.getfield 16, 3) := by decide +kernel
theorem dX6_readsItem_82 : decode cX6_readsItem 82 = .ok (.iconst 0, 1) := by decide +kernel
theorem dX6_readsItem_83 : decode cX6_readsItem 83 = .ok (.dup2, 1) := by decide +kernel
theorem dX6_readsItem_84 : decode cX6_readsItem 84 = .ok (.iaload, 1) := by decide +kernel
theorem dX6_readsItem_85 : decode cX6_readsItem 85 = .ok (.iconst 1, 1) := by decide +kernel
theorem dX6_readsItem_86 : decode cX6_readsItem 86 = .ok (.iadd, 1) := by decide +kernel
theorem dX6_readsItem_87 : decode cX6_readsItem 87 = .ok (.iastore, 1) := by decide +kernel
theorem dX6_readsItem_88 : decode cX6_readsItem 88 = .ok (.iconst 1, 1) := by decide +kernel
theorem dX6_readsItem_89 : decode cX6_readsItem 89 = .ok (.ireturn, 1) := by decide +kernel
theorem dX6_readsItem_90 : decode cX6_readsItem 90 = .ok (.iload_n 1, 1) := by decide +kernel
theorem dX6_readsItem_91 : decode cX6_readsItem 91 = .ok (.bipush 100, 2) := by decide +kernel
theorem dX6_readsItem_93 : decode cX6_readsItem 93 = .ok (.if_icmp .ne 13, 3) := by decide +kernel
theorem dX6_readsItem_96 : decode cX6_readsItem 96 = .ok (.aload_n 0, 1) := by decide +kernel
theorem dX6_readsItem_97 : decode cX6_readsItem 97 = .ok (.iconst 1, 1) := by decide +kernel
theorem dX6_readsItem_98 : decode cX6_readsItem 98 = .ok (.iconst 1, 1) := by decide +kernel
theorem dX6_readsItem_99 : decode cX6_readsItem 99 = .ok (.iconst 4, 1) := by decide +kernel
theorem dX6_readsItem_100 : decode cX6_readsItem 100 = .ok (.invokevirtual 86, 3) := by decide +kernel
theorem dX6_readsItem_103 : decode cX6_readsItem 103 = .ok (.goto 25, 3) := by decide +kernel
theorem dX6_readsItem_106 : decode cX6_readsItem 106 = .ok (.iload_n 1, 1) := by decide +kernel
theorem dX6_readsItem_107 : decode cX6_readsItem 107 = .ok (.bipush 110, 2) := by decide +kernel
theorem dX6_readsItem_109 : decode cX6_readsItem 109 = .ok (.if_icmp .ne 18, 3) := by decide +kernel
theorem dX6_readsItem_112 : decode cX6_readsItem 112 = .ok (.aload_n 0, 1) := by decide +kernel
theorem dX6_readsItem_113 : decode cX6_readsItem 113 = .ok (.iconst 2, 1) := by decide +kernel
theorem dX6_readsItem_114 : decode cX6_readsItem 114 = .ok (.iconst 2, 1) := by decide +kernel
theorem dX6_readsItem_115 : decode cX6_readsItem 115 = .ok (.bipush 8, 2) := by decide +kernel
theorem dX6_readsItem_117 : decode cX6_readsItem 117 = .ok (.invokevirtual 86, 3) := by decide +kernel
theorem dX6_readsItem_120 : decode cX6_readsItem 120 = .ok (.ifCond .eq 7, 3) := by decide +kernel
theorem dX6_readsItem_123 : decode cX6_readsItem 123 = .ok (.iconst 1, 1) := by decide +kernel
theorem dX6_readsItem_124 : decode cX6_readsItem 124 = .ok (.goto 4, 3) := by decide +kernel
theorem dX6_readsItem_127 : decode cX6_readsItem 127 = .ok (.iconst 0, 1) := by decide +kernel
theorem dX6_readsItem_128 : decode cX6_readsItem 128 = .ok (.ireturn, 1) := by decide +kernel
theorem dX6_reads_0 : decode cX6_reads 0 = .ok (.iconst 0, 1) := by decide +kernel
theorem dX6_reads_1 : decode cX6_reads 1 = .ok (.istore_n 1, 1) := by decide +kernel
theorem dX6_reads_2 : decode cX6_reads 2 = .ok (.iload_n 1, 1) := by decide +kernel
theorem dX6_reads_3 : decode cX6_reads 3 = .ok (.bipush 26, 2) := by decide +kernel
theorem dX6_reads_5 : decode cX6_reads 5 = .ok (.if_icmp .ge 16, 3) := by decide +kernel
theorem dX6_reads_8 : decode cX6_reads 8 = .ok (.aload_n 0, 1) := by decide +kernel
theorem dX6_reads_9 : decode cX6_reads 9 = .ok (.getfield 16, 3) := by decide +kernel
theorem dX6_reads_12 : decode cX6_reads 12 = .ok (.iload_n 1, 1) := by decide +kernel
theorem dX6_reads_13 : decode cX6_reads 13 = .ok (.iconst 0, 1) := by decide +kernel
theorem dX6_reads_14 : decode cX6_reads 14 = .ok (.iastore, 1) := by decide +kernel
theorem dX6_reads_15 : decode cX6_reads 15 = .ok (.iinc 1 1, 3) := by decide +kernel
theorem dX6_reads_18 : decode cX6_reads 18 = .ok (.goto (-16), 3) := by decide +kernel
theorem dX6_reads_21 : decode cX6_reads 21 = .ok (.aload_n 0, 1) := by decide +kernel
theorem dX6_reads_22 : decode cX6_reads 22 = .ok (.getfield 16, 3) := by decide +kernel
theorem dX6_reads_25 : decode cX6_reads 25 = .ok (.iconst 1, 1) := by decide +kernel
theorem dX6_reads_26 : decode cX6_reads 26 = .ok (.iconst 3, 1) := by decide +kernel
theorem dX6_reads_27 : decode cX6_reads 27 = .ok (.iastore, 1) := by decide +kernel
theorem dX6_reads_28 : decode cX6_reads 28 = .ok (.aload_n 0, 1) := by decide +kernel
theorem dX6_reads_29 : decode cX6_reads 29 = .ok (.getfield 16, 3) := by decide +kernel
