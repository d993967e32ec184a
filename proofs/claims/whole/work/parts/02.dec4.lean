theorem dX6_lays_259 : decode cX6_lays 259 = .ok (.getfield 32, 3) := by decide +kernel
theorem dX6_lays_262 : decode cX6_lays 262 = .ok (.aload_n 0, 1) := by decide +kernel
theorem dX6_lays_263 : decode cX6_lays 263 = .ok (.getfield 124, 3) := by decide +kernel
theorem dX6_lays_266 : decode cX6_lays 266 = .ok (.iload 7, 2) := by decide +kernel
theorem dX6_lays_268 : decode cX6_lays 268 = .ok (.iastore, 1) := by decide +kernel
theorem dX6_lays_269 : decode cX6_lays 269 = .ok (.aload_n 0, 1) := by decide +kernel
theorem dX6_lays_270 : decode cX6_lays 270 = .ok (.dup, 1) := by decide +kernel
theorem dX6_lays_271 : decode cX6_lays 271 = .ok (.getfield 124, 3) := by decide +kernel
theorem dX6_lays_274 : decode cX6_lays 274 = .ok (.iconst 1, 1) := by decide +kernel
theorem dX6_lays_275 : decode cX6_lays 275 = .ok (.iadd, 1) := by decide +kernel
theorem dX6_lays_276 : decode cX6_lays 276 = .ok (.putfield 124, 3) := by decide +kernel
theorem dX6_lays_279 : decode cX6_lays 279 = .ok (.goto 24, 3) := by decide +kernel
theorem dX6_lays_282 : decode cX6_lays 282 = .ok (.iload 6, 2) := by decide +kernel
theorem dX6_lays_284 : decode cX6_lays 284 = .ok (.aload_n 0, 1) := by decide +kernel
theorem dX6_lays_285 : decode cX6_lays 285 = .ok (.getfield 19, 3) := by decide +kernel
theorem dX6_lays_288 : decode cX6_lays 288 = .ok (.iconst 0, 1) := by decide +kernel
theorem dX6_lays_289 : decode cX6_lays 289 = .ok (.iaload, 1) := by decide +kernel
theorem dX6_lays_290 : decode cX6_lays 290 = .ok (.if_icmp .ge 13, 3) := by decide +kernel
theorem dX6_lays_293 : decode cX6_lays 293 = .ok (.iinc 3 1, 3) := by decide +kernel
theorem dX6_lays_296 : decode cX6_lays 296 = .ok (.aload_n 0, 1) := by decide +kernel
theorem dX6_lays_297 : decode cX6_lays 297 = .ok (.getfield 35, 3) := by decide +kernel
theorem dX6_lays_300 : decode cX6_lays 300 = .ok (.iload_n 3, 1) := by decide +kernel
theorem dX6_lays_301 : decode cX6_lays 301 = .ok (.iconst (-1), 1) := by decide +kernel
theorem dX6_lays_302 : decode cX6_lays 302 = .ok (.iastore, 1) := by decide +kernel
theorem dX6_lays_303 : decode cX6_lays 303 = .ok (.goto (-267), 3) := by decide +kernel
theorem dX6_lays_306 : decode cX6_lays 306 = .ok (.return_, 1) := by decide +kernel
theorem dX6_of_0 : decode cX6_of 0 = .ok (.iload_n 0, 1) := by decide +kernel
theorem dX6_of_1 : decode cX6_of 1 = .ok (.iconst 3, 1) := by decide +kernel
theorem dX6_of_2 : decode cX6_of 2 = .ok (.iload_n 1, 1) := by decide +kernel
theorem dX6_of_3 : decode cX6_of 3 = .ok (.imul, 1) := by decide +kernel
theorem dX6_of_4 : decode cX6_of 4 = .ok (.ishr, 1) := by decide +kernel
theorem dX6_of_5 : decode cX6_of 5 = .ok (.bipush 7, 2) := by decide +kernel
theorem dX6_of_7 : decode cX6_of 7 = .ok (.iand, 1) := by decide +kernel
theorem dX6_of_8 : decode cX6_of 8 = .ok (.ireturn, 1) := by decide +kernel
theorem dX6_placeIn_0 : decode cX6_placeIn 0 = .ok (.iconst 0, 1) := by decide +kernel
theorem dX6_placeIn_1 : decode cX6_placeIn 1 = .ok (.istore_n 3, 1) := by decide +kernel
theorem dX6_placeIn_2 : decode cX6_placeIn 2 = .ok (.iconst 0, 1) := by decide +kernel
theorem dX6_placeIn_3 : decode cX6_placeIn 3 = .ok (.istore 4, 2) := by decide +kernel
theorem dX6_placeIn_5 : decode cX6_placeIn 5 = .ok (.iload 4, 2) := by decide +kernel
theorem dX6_placeIn_7 : decode cX6_placeIn 7 = .ok (.iload_n 1, 1) := by decide +kernel
theorem dX6_placeIn_8 : decode cX6_placeIn 8 = .ok (.if_icmp .ge 29, 3) := by decide +kernel
theorem dX6_placeIn_11 : decode cX6_placeIn 11 = .ok (.iload_n 0, 1) := by decide +kernel
theorem dX6_placeIn_12 : decode cX6_placeIn 12 = .ok (.iconst 3, 1) := by decide +kernel
theorem dX6_placeIn_13 : decode cX6_placeIn 13 = .ok (.iload 4, 2) := by decide +kernel
theorem dX6_placeIn_15 : decode cX6_placeIn 15 = .ok (.imul, 1) := by decide +kernel
theorem dX6_placeIn_16 : decode cX6_placeIn 16 = .ok (.ishr, 1) := by decide +kernel
theorem dX6_placeIn_17 : decode cX6_placeIn 17 = .ok (.bipush 7, 2) := by decide +kernel
theorem dX6_placeIn_19 : decode cX6_placeIn 19 = .ok (.iand, 1) := by decide +kernel
theorem dX6_placeIn_20 : decode cX6_placeIn 20 = .ok (.iload_n 2, 1) := by decide +kernel
theorem dX6_placeIn_21 : decode cX6_placeIn 21 = .ok (.if_icmp .ne 8, 3) := by decide +kernel
theorem dX6_placeIn_24 : decode cX6_placeIn 24 = .ok (.iload 4, 2) := by decide +kernel
theorem dX6_placeIn_26 : decode cX6_placeIn 26 = .ok (.goto 4, 3) := by decide +kernel
theorem dX6_placeIn_29 : decode cX6_placeIn 29 = .ok (.iload_n 3, 1) := by decide +kernel
theorem dX6_placeIn_30 : decode cX6_placeIn 30 = .ok (.istore_n 3, 1) := by decide +kernel
theorem dX6_placeIn_31 : decode cX6_placeIn 31 = .ok (.iinc 4 1, 3) := by decide +kernel
theorem dX6_placeIn_34 : decode cX6_placeIn 34 = .ok (.goto (-29), 3) := by decide +kernel
theorem dX6_placeIn_37 : decode cX6_placeIn 37 = .ok (.iload_n 3, 1) := by decide +kernel
theorem dX6_placeIn_38 : decode cX6_placeIn 38 = .ok (.ireturn, 1) := by decide +kernel
theorem dX6_orders_0 : decode cX6_orders 0 = .ok (.aload_n 0, 1) := by decide +kernel
theorem dX6_orders_1 : decode cX6_orders 1 = .ok (.aload_n 0, 1) := by decide +kernel
theorem dX6_orders_2 : decode cX6_orders 2 = .ok (.invokevirtual 114, 3) := by decide +kernel
theorem dX6_orders_5 : decode cX6_orders 5 = .ok (.invokevirtual 130, 3) := by decide +kernel
theorem dX6_orders_8 : decode cX6_orders 8 = .ok (.aload_n 0, 1) := by decide +kernel
theorem dX6_orders_9 : decode cX6_orders 9 = .ok (.getfield 124, 3) := by decide +kernel
theorem dX6_orders_12 : decode cX6_orders 12 = .ok (.ireturn, 1) := by decide +kernel
theorem dX6_firsts_0 : decode cX6_firsts 0 = .ok (.iconst 0, 1) := by decide +kernel
theorem dX6_firsts_1 : decode cX6_firsts 1 = .ok (.istore_n 2, 1) := by decide +kernel
theorem dX6_firsts_2 : decode cX6_firsts 2 = .ok (.iconst 0, 1) := by decide +kernel
theorem dX6_firsts_3 : decode cX6_firsts 3 = .ok (.istore_n 3, 1) := by decide +kernel
theorem dX6_firsts_4 : decode cX6_firsts 4 = .ok (.iload_n 3, 1) := by decide +kernel
theorem dX6_firsts_5 : decode cX6_firsts 5 = .ok (.aload_n 0, 1) := by decide +kernel
theorem dX6_firsts_6 : decode cX6_firsts 6 = .ok (.getfield 124, 3) := by decide +kernel
theorem dX6_firsts_9 : decode cX6_firsts 9 = .ok (.if_icmp .ge 28, 3) := by decide +kernel
theorem dX6_firsts_12 : decode cX6_firsts 12 = .ok (.iload_n 1, 1) := by decide +kernel
theorem dX6_firsts_13 : decode cX6_firsts 13 = .ok (.ifCond .eq 24, 3) := by decide +kernel
theorem dX6_firsts_16 : decode cX6_firsts 16 = .ok (.iload_n 2, 1) := by decide +kernel
theorem dX6_firsts_17 : decode cX6_firsts 17 = .ok (.iconst 1, 1) := by decide +kernel
theorem dX6_firsts_18 : decode cX6_firsts 18 = .ok (.aload_n 0, 1) := by decide +kernel
theorem dX6_firsts_19 : decode cX6_firsts 19 = .ok (.getfield 32, 3) := by decide +kernel
theorem dX6_firsts_22 : decode cX6_firsts 22 = .ok (.iload_n 3, 1) := by decide +kernel
theorem dX6_firsts_23 : decode cX6_firsts 23 = .ok (.iaload, 1) := by decide +kernel
theorem dX6_firsts_24 : decode cX6_firsts 24 = .ok (.iconst 0, 1) := by decide +kernel
theorem dX6_firsts_25 : decode cX6_firsts 25 = .ok (.invokestatic 134, 3) := by decide +kernel
theorem dX6_firsts_28 : decode cX6_firsts 28 = .ok (.ishl, 1) := by decide +kernel
theorem dX6_firsts_29 : decode cX6_firsts 29 = .ok (.ior, 1) := by decide +kernel
theorem dX6_firsts_30 : decode cX6_firsts 30 = .ok (.istore_n 2, 1) := by decide +kernel
theorem dX6_firsts_31 : decode cX6_firsts 31 = .ok (.iinc 3 1, 3) := by decide +kernel
theorem dX6_firsts_34 : decode cX6_firsts 34 = .ok (.goto (-30), 3) := by decide +kernel
theorem dX6_firsts_37 : decode cX6_firsts 37 = .ok (.iload_n 2, 1) := by decide +kernel
theorem dX6_firsts_38 : decode cX6_firsts 38 = .ok (.ireturn, 1) := by decide +kernel
theorem dX6_first_0 : decode cX6_first 0 = .ok (.aload_n 0, 1) := by decide +kernel
theorem dX6_first_1 : decode cX6_first 1 = .ok (.aload_n 0, 1) := by decide +kernel
theorem dX6_first_2 : decode cX6_first 2 = .ok (.invokevirtual 114, 3) := by decide +kernel
theorem dX6_first_5 : decode cX6_first 5 = .ok (.invokevirtual 130, 3) := by decide +kernel
theorem dX6_first_8 : decode cX6_first 8 = .ok (.aload_n 0, 1) := by decide +kernel
theorem dX6_first_9 : decode cX6_first 9 = .ok (.aload_n 0, 1) := by decide +kernel
theorem dX6_first_10 : decode cX6_first 10 = .ok (.invokevirtual 114, 3) := by decide +kernel
theorem dX6_first_13 : decode cX6_first 13 = .ok (.invokevirtual 138, 3) := by decide +kernel
theorem dX6_first_16 : decode cX6_first 16 = .ok (.ireturn, 1) := by decide +kernel
theorem dX6_isThere_0 : decode cX6_isThere 0 = .ok (.aload_n 0, 1) := by decide +kernel
theorem dX6_isThere_1 : decode cX6_isThere 1 = .ok (.iload_n 1, 1) := by decide +kernel
theorem dX6_isThere_2 : decode cX6_isThere 2 = .ok (.invokevirtual 102, 3) := by decide +kernel
theorem dX6_isThere_5 : decode cX6_isThere 5 = .ok (.ifCond .eq 17, 3) := by decide +kernel
theorem dX6_isThere_8 : decode cX6_isThere 8 = .ok (.aload_n 0, 1) := by decide +kernel
theorem dX6_isThere_9 : decode cX6_isThere 9 = .ok (.iload_n 1, 1) := by decide +kernel
theorem dX6_isThere_10 : decode cX6_isThere 10 = .ok (.invokevirtual 105, 3) := by decide +kernel
theorem dX6_isThere_13 : decode cX6_isThere 13 = .ok (.bipush (-9), 2) := by decide +kernel
theorem dX6_isThere_15 : decode cX6_isThere 15 = .ok (.if_icmp .eq 7, 3) := by decide +kernel
theorem dX6_isThere_18 : decode cX6_isThere 18 = .ok (.iconst 1, 1) := by decide +kernel
theorem dX6_isThere_19 : decode cX6_isThere 19 = .ok (.goto 4, 3) := by decide +kernel
theorem dX6_isThere_22 : decode cX6_isThere 22 = .ok (.iconst 0, 1) := by decide +kernel
theorem dX6_isThere_23 : decode cX6_isThere 23 = .ok (.ireturn, 1) := by decide +kernel
theorem dX6_sure_0 : decode cX6_sure 0 = .ok (.aload_n 0, 1) := by decide +kernel
theorem dX6_sure_1 : decode cX6_sure 1 = .ok (.iload_n 1, 1) := by decide +kernel
theorem dX6_sure_2 : decode cX6_sure 2 = .ok (.invokevirtual 141, 3) := by decide +kernel
theorem dX6_sure_5 : decode cX6_sure 5 = .ok (.ifCond .ne 5, 3) := by decide +kernel
theorem dX6_sure_8 : decode cX6_sure 8 = .ok (.iconst (-1), 1) := by decide +kernel
theorem dX6_sure_9 : decode cX6_sure 9 = .ok (.ireturn, 1) := by decide +kernel
theorem dX6_sure_10 : decode cX6_sure 10 = .ok (.aload_n 0, 1) := by decide +kernel
theorem dX6_sure_11 : decode cX6_sure 11 = .ok (.invokevirtual 114, 3) := by decide +kernel
theorem dX6_sure_14 : decode cX6_sure 14 = .ok (.invokestatic 95, 3) := by decide +kernel
theorem dX6_sure_17 : decode cX6_sure 17 = .ok (.istore_n 2, 1) := by decide +kernel
theorem dX6_sure_18 : decode cX6_sure 18 = .ok (.aload_n 0, 1) := by decide +kernel
theorem dX6_sure_19 : decode cX6_sure 19 = .ok (.aload_n 0, 1) := by decide +kernel
theorem dX6_sure_20 : decode cX6_sure 20 = .ok (.invokevirtual 114, 3) := by decide +kernel
theorem dX6_sure_23 : decode cX6_sure 23 = .ok (.invokevirtual 130, 3) := by decide +kernel
theorem dX6_sure_26 : decode cX6_sure 26 = .ok (.aload_n 0, 1) := by decide +kernel
theorem dX6_sure_27 : decode cX6_sure 27 = .ok (.getfield 124, 3) := by decide +kernel
theorem dX6_sure_30 : decode cX6_sure 30 = .ok (.ifCond .ne 7, 3) := by decide +kernel
theorem dX6_sure_33 : decode cX6_sure 33 = .ok (.iconst 0, 1) := by decide +kernel
theorem dX6_sure_34 : decode cX6_sure 34 = .ok (.goto 7, 3) := by decide +kernel
theorem dX6_sure_37 : decode cX6_sure 37 = .ok (.aload_n 0, 1) := by decide +kernel
theorem dX6_sure_38 : decode cX6_sure 38 = .ok (.invokevirtual 114, 3) := by decide +kernel
theorem dX6_sure_41 : decode cX6_sure 41 = .ok (.istore_n 3, 1) := by decide +kernel
theorem dX6_sure_42 : decode cX6_sure 42 = .ok (.iconst 0, 1) := by decide +kernel
theorem dX6_sure_43 : decode cX6_sure 43 = .ok (.istore 4, 2) := by decide +kernel
theorem dX6_sure_45 : decode cX6_sure 45 = .ok (.iload 4, 2) := by decide +kernel
theorem dX6_sure_47 : decode cX6_sure 47 = .ok (.aload_n 0, 1) := by decide +kernel
theorem dX6_sure_48 : decode cX6_sure 48 = .ok (.getfield 124, 3) := by decide +kernel
theorem dX6_sure_51 : decode cX6_sure 51 = .ok (.if_icmp .ge 62, 3) := by decide +kernel
theorem dX6_sure_54 : decode cX6_sure 54 = .ok (.iconst 0, 1) := by decide +kernel
theorem dX6_sure_55 : decode cX6_sure 55 = .ok (.istore 5, 2) := by decide +kernel
theorem dX6_sure_57 : decode cX6_sure 57 = .ok (.iconst 0, 1) := by decide +kernel
theorem dX6_sure_58 : decode cX6_sure 58 = .ok (.istore 6, 2) := by decide +kernel
theorem dX6_sure_60 : decode cX6_sure 60 = .ok (.iload 6, 2) := by decide +kernel
theorem dX6_sure_62 : decode cX6_sure 62 = .ok (.aload_n 0, 1) := by decide +kernel
theorem dX6_sure_63 : decode cX6_sure 63 = .ok (.getfield 32, 3) := by decide +kernel
theorem dX6_sure_66 : decode cX6_sure 66 = .ok (.iload 4, 2) := by decide +kernel
theorem dX6_sure_68 : decode cX6_sure 68 = .ok (.iaload, 1) := by decide +kernel
theorem dX6_sure_69 : decode cX6_sure 69 = .ok (.iload_n 2, 1) := by decide +kernel
theorem dX6_sure_70 : decode cX6_sure 70 = .ok (.iload_n 1, 1) := by decide +kernel
theorem dX6_sure_71 : decode cX6_sure 71 = .ok (.invokestatic 144, 3) := by decide +kernel
theorem dX6_sure_74 : decode cX6_sure 74 = .ok (.if_icmp .ge 28, 3) := by decide +kernel
theorem dX6_sure_77 : decode cX6_sure 77 = .ok (.iload 5, 2) := by decide +kernel
theorem dX6_sure_79 : decode cX6_sure 79 = .ok (.iconst 1, 1) := by decide +kernel
theorem dX6_sure_80 : decode cX6_sure 80 = .ok (.aload_n 0, 1) := by decide +kernel
theorem dX6_sure_81 : decode cX6_sure 81 = .ok (.getfield 32, 3) := by decide +kernel
theorem dX6_sure_84 : decode cX6_sure 84 = .ok (.iload 4, 2) := by decide +kernel
theorem dX6_sure_86 : decode cX6_sure 86 = .ok (.iaload, 1) := by decide +kernel
theorem dX6_sure_87 : decode cX6_sure 87 = .ok (.iload 6, 2) := by decide +kernel
theorem dX6_sure_89 : decode cX6_sure 89 = .ok (.invokestatic 134, 3) := by decide +kernel
theorem dX6_sure_92 : decode cX6_sure 92 = .ok (.ishl, 1) := by decide +kernel
theorem dX6_sure_93 : decode cX6_sure 93 = .ok (.ior, 1) := by decide +kernel
theorem dX6_sure_94 : decode cX6_sure 94 = .ok (.istore 5, 2) := by decide +kernel
theorem dX6_sure_96 : decode cX6_sure 96 = .ok (.iinc 6 1, 3) := by decide +kernel
theorem dX6_sure_99 : decode cX6_sure 99 = .ok (.goto (-39), 3) := by decide +kernel
theorem dX6_sure_102 : decode cX6_sure 102 = .ok (.iload_n 3, 1) := by decide +kernel
theorem dX6_sure_103 : decode cX6_sure 103 = .ok (.iload 5, 2) := by decide +kernel
theorem dX6_sure_105 : decode cX6_sure 105 = .ok (.iand, 1) := by decide +kernel
theorem dX6_sure_106 : decode cX6_sure 106 = .ok (.istore_n 3, 1) := by decide +kernel
theorem dX6_sure_107 : decode cX6_sure 107 = .ok (.iinc 4 1, 3) := by decide +kernel
theorem dX6_sure_110 : decode cX6_sure 110 = .ok (.goto (-65), 3) := by decide +kernel
theorem dX6_sure_113 : decode cX6_sure 113 = .ok (.iload_n 3, 1) := by decide +kernel
theorem dX6_sure_114 : decode cX6_sure 114 = .ok (.ireturn, 1) := by decide +kernel
theorem dX6_leads_0 : decode cX6_leads 0 = .ok (.iconst 0, 1) := by decide +kernel
theorem dX6_leads_1 : decode cX6_leads 1 = .ok (.istore_n 2, 1) := by decide +kernel
theorem dX6_leads_2 : decode cX6_leads 2 = .ok (.iconst 0, 1) := by decide +kernel
theorem dX6_leads_3 : decode cX6_leads 3 = .ok (.istore_n 3, 1) := by decide +kernel
theorem dX6_leads_4 : decode cX6_leads 4 = .ok (.iload_n 3, 1) := by decide +kernel
theorem dX6_leads_5 : decode cX6_leads 5 = .ok (.aload_n 0, 1) := by decide +kernel
theorem dX6_leads_6 : decode cX6_leads 6 = .ok (.getfield 124, 3) := by decide +kernel
theorem dX6_leads_9 : decode cX6_leads 9 = .ok (.if_icmp .ge 31, 3) := by decide +kernel
theorem dX6_leads_12 : decode cX6_leads 12 = .ok (.iload_n 2, 1) := by decide +kernel
theorem dX6_leads_13 : decode cX6_leads 13 = .ok (.aload_n 0, 1) := by decide +kernel
theorem dX6_leads_14 : decode cX6_leads 14 = .ok (.getfield 32, 3) := by decide +kernel
theorem dX6_leads_17 : decode cX6_leads 17 = .ok (.iload_n 3, 1) := by decide +kernel
theorem dX6_leads_18 : decode cX6_leads 18 = .ok (.iaload, 1) := by decide +kernel
theorem dX6_leads_19 : decode cX6_leads 19 = .ok (.iconst 0, 1) := by decide +kernel
theorem dX6_leads_20 : decode cX6_leads 20 = .ok (.invokestatic 134, 3) := by decide +kernel
theorem dX6_leads_23 : decode cX6_leads 23 = .ok (.iload_n 1, 1) := by decide +kernel
theorem dX6_leads_24 : decode cX6_leads 24 = .ok (.if_icmp .ne 7, 3) := by decide +kernel
theorem dX6_leads_27 : decode cX6_leads 27 = .ok (.iconst 1, 1) := by decide +kernel
theorem dX6_leads_28 : decode cX6_leads 28 = .ok (.goto 4, 3) := by decide +kernel
theorem dX6_leads_31 : decode cX6_leads 31 = .ok (.iconst 0, 1) := by decide +kernel
theorem dX6_leads_32 : decode cX6_leads 32 = .ok (.iadd, 1) := by decide +kernel
theorem dX6_leads_33 : decode cX6_leads 33 = .ok (.istore_n 2, 1) := by decide +kernel
theorem dX6_leads_34 : decode cX6_leads 34 = .ok (.iinc 3 1, 3) := by decide +kernel
theorem dX6_leads_37 : decode cX6_leads 37 = .ok (.goto (-33), 3) := by decide +kernel
theorem dX6_leads_40 : decode cX6_leads 40 = .ok (.iload_n 2, 1) := by decide +kernel
theorem dX6_leads_41 : decode cX6_leads 41 = .ok (.ireturn, 1) := by decide +kernel
theorem dX6_common_0 : decode cX6_common 0 = .ok (.iload_n 0, 1) := by decide +kernel
theorem dX6_common_1 : decode cX6_common 1 = .ok (.istore_n 2, 1) := by decide +kernel
theorem dX6_common_2 : decode cX6_common 2 = .ok (.iload_n 1, 1) := by decide +kernel
theorem dX6_common_3 : decode cX6_common 3 = .ok (.istore_n 3, 1) := by decide +kernel
theorem dX6_common_4 : decode cX6_common 4 = .ok (.iload_n 3, 1) := by decide +kernel
theorem dX6_common_5 : decode cX6_common 5 = .ok (.ifCond .le 16, 3) := by decide +kernel
theorem dX6_common_8 : decode cX6_common 8 = .ok (.iload_n 2, 1) := by decide +kernel
theorem dX6_common_9 : decode cX6_common 9 = .ok (.iload_n 3, 1) := by decide +kernel
theorem dX6_common_10 : decode cX6_common 10 = .ok (.irem, 1) := by decide +kernel
theorem dX6_common_11 : decode cX6_common 11 = .ok (.istore 4, 2) := by decide +kernel
theorem dX6_common_13 : decode cX6_common 13 = .ok (.iload_n 3, 1) := by decide +kernel
theorem dX6_common_14 : decode cX6_common 14 = .ok (.istore_n 2, 1) := by decide +kernel
theorem dX6_common_15 : decode cX6_common 15 = .ok (.iload 4, 2) := by decide +kernel
theorem dX6_common_17 : decode cX6_common 17 = .ok (.istore_n 3, 1) := by decide +kernel
theorem dX6_common_18 : decode cX6_common 18 = .ok (.goto (-14), 3) := by decide +kernel
theorem dX6_common_21 : decode cX6_common 21 = .ok (.iload_n 2, 1) := by decide +kernel
theorem dX6_common_22 : decode cX6_common 22 = .ok (.ireturn, 1) := by decide +kernel
theorem dX6_chance_0 : decode cX6_chance 0 = .ok (.aload_n 0, 1) := by decide +kernel
theorem dX6_chance_1 : decode cX6_chance 1 = .ok (.iload_n 1, 1) := by decide +kernel
theorem dX6_chance_2 : decode cX6_chance 2 = .ok (.invokevirtual 141, 3) := by decide +kernel
theorem dX6_chance_5 : decode cX6_chance 5 = .ok (.ifCond .eq 12, 3) := by decide +kernel
theorem dX6_chance_8 : decode cX6_chance 8 = .ok (.iload_n 2, 1) := by decide +kernel
theorem dX6_chance_9 : decode cX6_chance 9 = .ok (.iconst 0, 1) := by decide +kernel
theorem dX6_chance_10 : decode cX6_chance 10 = .ok (.iconst 1, 1) := by decide +kernel
theorem dX6_chance_11 : decode cX6_chance 11 = .ok (.invokestatic 52, 3) := by decide +kernel
theorem dX6_chance_14 : decode cX6_chance 14 = .ok (.ifCond .ne 5, 3) := by decide +kernel
theorem dX6_chance_17 : decode cX6_chance 17 = .ok (.iconst (-1), 1) := by decide +kernel
theorem dX6_chance_18 : decode cX6_chance 18 = .ok (.ireturn, 1) := by decide +kernel
theorem dX6_chance_19 : decode cX6_chance 19 = .ok (.aload_n 0, 1) := by decide +kernel
theorem dX6_chance_20 : decode cX6_chance 20 = .ok (.aload_n 0, 1) := by decide +kernel
theorem dX6_chance_21 : decode cX6_chance 21 = .ok (.invokevirtual 114, 3) := by decide +kernel
theorem dX6_chance_24 : decode cX6_chance 24 = .ok (.invokevirtual 130, 3) := by decide +kernel
theorem dX6_chance_27 : decode cX6_chance 27 = .ok (.aload_n 0, 1) := by decide +kernel
theorem dX6_chance_28 : decode cX6_chance 28 = .ok (.iload_n 1, 1) := by decide +kernel
theorem dX6_chance_29 : decode cX6_chance 29 = .ok (.invokevirtual 148, 3) := by decide +kernel
theorem dX6_chance_32 : decode cX6_chance 32 = .ok (.istore_n 3, 1) := by decide +kernel
theorem dX6_chance_33 : decode cX6_chance 33 = .ok (.aload_n 0, 1) := by decide +kernel
theorem dX6_chance_34 : decode cX6_chance 34 = .ok (.getfield 124, 3) := by decide +kernel
theorem dX6_chance_37 : decode cX6_chance 37 = .ok (.ifCond .ne 7, 3) := by decide +kernel
theorem dX6_chance_40 : decode cX6_chance 40 = .ok (.iconst 1, 1) := by decide +kernel
theorem dX6_chance_41 : decode cX6_chance 41 = .ok (.goto 7, 3) := by decide +kernel
theorem dX6_chance_44 : decode cX6_chance 44 = .ok (.aload_n 0, 1) := by decide +kernel
theorem dX6_chance_45 : decode cX6_chance 45 = .ok (.getfield 124, 3) := by decide +kernel
theorem dX6_chance_48 : decode cX6_chance 48 = .ok (.istore 4, 2) := by decide +kernel
theorem dX6_chance_50 : decode cX6_chance 50 = .ok (.iload_n 3, 1) := by decide +kernel
theorem dX6_chance_51 : decode cX6_chance 51 = .ok (.iload 4, 2) := by decide +kernel
theorem dX6_chance_53 : decode cX6_chance 53 = .ok (.invokestatic 151, 3) := by decide +kernel
theorem dX6_chance_56 : decode cX6_chance 56 = .ok (.istore 5, 2) := by decide +kernel
theorem dX6_chance_58 : decode cX6_chance 58 = .ok (.iload_n 2, 1) := by decide +kernel
theorem dX6_chance_59 : decode cX6_chance 59 = .ok (.ifCond .ne 10, 3) := by decide +kernel
theorem dX6_chance_62 : decode cX6_chance 62 = .ok (.iload_n 3, 1) := by decide +kernel
theorem dX6_chance_63 : decode cX6_chance 63 = .ok (.iload 5, 2) := by decide +kernel
theorem dX6_chance_65 : decode cX6_chance 65 = .ok (.idiv, 1) := by decide +kernel
theorem dX6_chance_66 : decode cX6_chance 66 = .ok (.goto 8, 3) := by decide +kernel
theorem dX6_chance_69 : decode cX6_chance 69 = .ok (.iload 4, 2) := by decide +kernel
theorem dX6_chance_71 : decode cX6_chance 71 = .ok (.iload 5, 2) := by decide +kernel
theorem dX6_chance_73 : decode cX6_chance 73 = .ok (.idiv, 1) := by decide +kernel
theorem dX6_chance_74 : decode cX6_chance 74 = .ok (.ireturn, 1) := by decide +kernel
theorem dX6_isKnown_0 : decode cX6_isKnown 0 = .ok (.iload_n 1, 1) := by decide +kernel
theorem dX6_isKnown_1 : decode cX6_isKnown 1 = .ok (.invokestatic 95, 3) := by decide +kernel
theorem dX6_isKnown_4 : decode cX6_isKnown 4 = .ok (.iload_n 2, 1) := by decide +kernel
theorem dX6_isKnown_5 : decode cX6_isKnown 5 = .ok (.iconst 1, 1) := by decide +kernel
theorem dX6_isKnown_6 : decode cX6_isKnown 6 = .ok (.isub, 1) := by decide +kernel
theorem dX6_isKnown_7 : decode cX6_isKnown 7 = .ok (.if_icmp .lt 5, 3) := by decide +kernel
theorem dX6_isKnown_10 : decode cX6_isKnown 10 = .ok (.iconst 1, 1) := by decide +kernel
theorem dX6_isKnown_11 : decode cX6_isKnown 11 = .ok (.ireturn, 1) := by decide +kernel
theorem dX6_isKnown_12 : decode cX6_isKnown 12 = .ok (.iconst 0, 1) := by decide +kernel
theorem dX6_isKnown_13 : decode cX6_isKnown 13 = .ok (.istore_n 3, 1) := by decide +kernel
theorem dX6_isKnown_14 : decode cX6_isKnown 14 = .ok (.iload_n 3, 1) := by decide +kernel
theorem dX6_isKnown_15 : decode cX6_isKnown 15 = .ok (.iconst 1, 1) := by decide +kernel
theorem dX6_isKnown_16 : decode cX6_isKnown 16 = .ok (.iconst 3, 1) := by decide +kernel
theorem dX6_isKnown_17 : decode cX6_isKnown 17 = .ok (.iload_n 1, 1) := by decide +kernel
theorem dX6_isKnown_18 : decode cX6_isKnown 18 = .ok (.invokestatic 95, 3) := by decide +kernel
theorem dX6_isKnown_21 : decode cX6_isKnown 21 = .ok (.imul, 1) := by decide +kernel
theorem dX6_isKnown_22 : decode cX6_isKnown 22 = .ok (.ishl, 1) := by decide +kernel
theorem dX6_isKnown_23 : decode cX6_isKnown 23 = .ok (.if_icmp .ge 17, 3) := by decide +kernel
theorem dX6_isKnown_26 : decode cX6_isKnown 26 = .ok (.aload_n 0, 1) := by decide +kernel
theorem dX6_isKnown_27 : decode cX6_isKnown 27 = .ok (.getfield 42, 3) := by decide +kernel
theorem dX6_isKnown_30 : decode cX6_isKnown 30 = .ok (.iload_n 3, 1) := by decide +kernel
theorem dX6_isKnown_31 : decode cX6_isKnown 31 = .ok (.bipush 8, 2) := by decide +kernel
theorem dX6_isKnown_33 : decode cX6_isKnown 33 = .ok (.iastore, 1) := by decide +kernel
theorem dX6_isKnown_34 : decode cX6_isKnown 34 = .ok (.iinc 3 1, 3) := by decide +kernel
theorem dX6_isKnown_37 : decode cX6_isKnown 37 = .ok (.goto (-23), 3) := by decide +kernel
theorem dX6_isKnown_40 : decode cX6_isKnown 40 = .ok (.iconst 1, 1) := by decide +kernel
theorem dX6_isKnown_41 : decode cX6_isKnown 41 = .ok (.istore_n 3, 1) := by decide +kernel
theorem dX6_isKnown_42 : decode cX6_isKnown 42 = .ok (.iconst 0, 1) := by decide +kernel
theorem dX6_isKnown_43 : decode cX6_isKnown 43 = .ok (.istore 4, 2) := by decide +kernel
theorem dX6_isKnown_45 : decode cX6_isKnown 45 = .ok (.iload 4, 2) := by decide +kernel
theorem dX6_isKnown_47 : decode cX6_isKnown 47 = .ok (.aload_n 0, 1) := by decide +kernel
theorem dX6_isKnown_48 : decode cX6_isKnown 48 = .ok (.getfield 124, 3) := by decide +kernel
theorem dX6_isKnown_51 : decode cX6_isKnown 51 = .ok (.if_icmp .ge 120, 3) := by decide +kernel
theorem dX6_isKnown_54 : decode cX6_isKnown 54 = .ok (.iload_n 3, 1) := by decide +kernel
theorem dX6_isKnown_55 : decode cX6_isKnown 55 = .ok (.ifCond .eq 116, 3) := by decide +kernel
theorem dX6_isKnown_58 : decode cX6_isKnown 58 = .ok (.iconst 0, 1) := by decide +kernel
theorem dX6_isKnown_59 : decode cX6_isKnown 59 = .ok (.istore 5, 2) := by decide +kernel
theorem dX6_isKnown_61 : decode cX6_isKnown 61 = .ok (.iconst 0, 1) := by decide +kernel
theorem dX6_isKnown_62 : decode cX6_isKnown 62 = .ok (.istore 6, 2) := by decide +kernel
theorem dX6_isKnown_64 : decode cX6_isKnown 64 = .ok (.iload 6, 2) := by decide +kernel
theorem dX6_isKnown_66 : decode cX6_isKnown 66 = .ok (.bipush 7, 2) := by decide +kernel
theorem dX6_isKnown_68 : decode cX6_isKnown 68 = .ok (.if_icmp .ge 45, 3) := by decide +kernel
theorem dX6_isKnown_71 : decode cX6_isKnown 71 = .ok (.iload_n 1, 1) := by decide +kernel
theorem dX6_isKnown_72 : decode cX6_isKnown 72 = .ok (.iload 6, 2) := by decide +kernel
theorem dX6_isKnown_74 : decode cX6_isKnown 74 = .ok (.ishr, 1) := by decide +kernel
theorem dX6_isKnown_75 : decode cX6_isKnown 75 = .ok (.iconst 1, 1) := by decide +kernel
theorem dX6_isKnown_76 : decode cX6_isKnown 76 = .ok (.iand, 1) := by decide +kernel
theorem dX6_isKnown_77 : decode cX6_isKnown 77 = .ok (.iconst 1, 1) := by decide +kernel
theorem dX6_isKnown_78 : decode cX6_isKnown 78 = .ok (.if_icmp .ne 25, 3) := by decide +kernel
theorem dX6_isKnown_81 : decode cX6_isKnown 81 = .ok (.bipush 8, 2) := by decide +kernel
theorem dX6_isKnown_83 : decode cX6_isKnown 83 = .ok (.iload 5, 2) := by decide +kernel
theorem dX6_isKnown_85 : decode cX6_isKnown 85 = .ok (.imul, 1) := by decide +kernel
theorem dX6_isKnown_86 : decode cX6_isKnown 86 = .ok (.aload_n 0, 1) := by decide +kernel
theorem dX6_isKnown_87 : decode cX6_isKnown 87 = .ok (.getfield 32, 3) := by decide +kernel
theorem dX6_isKnown_90 : decode cX6_isKnown 90 = .ok (.iload 4, 2) := by decide +kernel
theorem dX6_isKnown_92 : decode cX6_isKnown 92 = .ok (.iaload, 1) := by decide +kernel
theorem dX6_isKnown_93 : decode cX6_isKnown 93 = .ok (.iload_n 2, 1) := by decide +kernel
theorem dX6_isKnown_94 : decode cX6_isKnown 94 = .ok (.iload 6, 2) := by decide +kernel
theorem dX6_isKnown_96 : decode cX6_isKnown 96 = .ok (.invokestatic 144, 3) := by decide +kernel
theorem dX6_isKnown_99 : decode cX6_isKnown 99 = .ok (.iadd, 1) := by decide +kernel
theorem dX6_isKnown_100 : decode cX6_isKnown 100 = .ok (.goto 5, 3) := by decide +kernel
theorem dX6_isKnown_103 : decode cX6_isKnown 103 = .ok (.iload 5, 2) := by decide +kernel
theorem dX6_isKnown_105 : decode cX6_isKnown 105 = .ok (.istore 5, 2) := by decide +kernel
theorem dX6_isKnown_107 : decode cX6_isKnown 107 = .ok (.iinc 6 1, 3) := by decide +kernel
theorem dX6_isKnown_110 : decode cX6_isKnown 110 = .ok (.goto (-46), 3) := by decide +kernel
theorem dX6_isKnown_113 : decode cX6_isKnown 113 = .ok (.aload_n 0, 1) := by decide +kernel
theorem dX6_isKnown_114 : decode cX6_isKnown 114 = .ok (.getfield 32, 3) := by decide +kernel
theorem dX6_isKnown_117 : decode cX6_isKnown 117 = .ok (.iload 4, 2) := by decide +kernel
theorem dX6_isKnown_119 : decode cX6_isKnown 119 = .ok (.iaload, 1) := by decide +kernel
theorem dX6_isKnown_120 : decode cX6_isKnown 120 = .ok (.iconst 0, 1) := by decide +kernel
theorem dX6_isKnown_121 : decode cX6_isKnown 121 = .ok (.invokestatic 134, 3) := by decide +kernel
theorem dX6_isKnown_124 : decode cX6_isKnown 124 = .ok (.istore 6, 2) := by decide +kernel
theorem dX6_isKnown_126 : decode cX6_isKnown 126 = .ok (.aload_n 0, 1) := by decide +kernel
theorem dX6_isKnown_127 : decode cX6_isKnown 127 = .ok (.getfield 42, 3) := by decide +kernel
theorem dX6_isKnown_130 : decode cX6_isKnown 130 = .ok (.iload 5, 2) := by decide +kernel
theorem dX6_isKnown_132 : decode cX6_isKnown 132 = .ok (.iaload, 1) := by decide +kernel
theorem dX6_isKnown_133 : decode cX6_isKnown 133 = .ok (.bipush 8, 2) := by decide +kernel
theorem dX6_isKnown_135 : decode cX6_isKnown 135 = .ok (.if_icmp .eq 15, 3) := by decide +kernel
theorem dX6_isKnown_138 : decode cX6_isKnown 138 = .ok (.aload_n 0, 1) := by decide +kernel
theorem dX6_isKnown_139 : decode cX6_isKnown 139 = .ok (.getfield 42, 3) := by decide +kernel
theorem dX6_isKnown_142 : decode cX6_isKnown 142 = .ok (.iload 5, 2) := by decide +kernel
theorem dX6_isKnown_144 : decode cX6_isKnown 144 = .ok (.iaload, 1) := by decide +kernel
theorem dX6_isKnown_145 : decode cX6_isKnown 145 = .ok (.iload 6, 2) := by decide +kernel
theorem dX6_isKnown_147 : decode cX6_isKnown 147 = .ok (.if_icmp .ne 7, 3) := by decide +kernel
theorem dX6_isKnown_150 : decode cX6_isKnown 150 = .ok (.iconst 1, 1) := by decide +kernel
theorem dX6_isKnown_151 : decode cX6_isKnown 151 = .ok (.goto 4, 3) := by decide +kernel
theorem dX6_isKnown_154 : decode cX6_isKnown 154 = .ok (.iconst 0, 1) := by decide +kernel
theorem dX6_isKnown_155 : decode cX6_isKnown 155 = .ok (.istore_n 3, 1) := by decide +kernel
theorem dX6_isKnown_156 : decode cX6_isKnown 156 = .ok (.aload_n 0, 1) := by decide +kernel
theorem dX6_isKnown_157 : decode cX6_isKnown 157 = .ok (.getfield 42, 3) := by decide +kernel
theorem dX6_isKnown_160 : decode cX6_isKnown 160 = .ok (.iload 5, 2) := by decide +kernel
theorem dX6_isKnown_162 : decode cX6_isKnown 162 = .ok (.iload 6, 2) := by decide +kernel
theorem dX6_isKnown_164 : decode cX6_isKnown 164 = .ok (.iastore, 1) := by decide +kernel
theorem dX6_isKnown_165 : decode cX6_isKnown 165 = .ok (.iinc 4 1, 3) := by decide +kernel
theorem dX6_isKnown_168 : decode cX6_isKnown 168 = .ok (.goto (-123), 3) := by decide +kernel
theorem dX6_isKnown_171 : decode cX6_isKnown 171 = .ok (.iload_n 3, 1) := by decide +kernel
theorem dX6_isKnown_172 : decode cX6_isKnown 172 = .ok (.ireturn, 1) := by decide +kernel
theorem dX6_ask_0 : decode cX6_ask 0 = .ok (.aload_n 0, 1) := by decide +kernel
theorem dX6_ask_1 : decode cX6_ask 1 = .ok (.invokevirtual 114, 3) := by decide +kernel
theorem dX6_ask_4 : decode cX6_ask 4 = .ok (.istore_n 1, 1) := by decide +kernel
theorem dX6_ask_5 : decode cX6_ask 5 = .ok (.iload_n 1, 1) := by decide +kernel
theorem dX6_ask_6 : decode cX6_ask 6 = .ok (.invokestatic 95, 3) := by decide +kernel
theorem dX6_ask_9 : decode cX6_ask 9 = .ok (.istore_n 2, 1) := by decide +kernel
theorem dX6_ask_10 : decode cX6_ask 10 = .ok (.aload_n 0, 1) := by decide +kernel
theorem dX6_ask_11 : decode cX6_ask 11 = .ok (.iload_n 1, 1) := by decide +kernel
theorem dX6_ask_12 : decode cX6_ask 12 = .ok (.invokevirtual 130, 3) := by decide +kernel
theorem dX6_ask_15 : decode cX6_ask 15 = .ok (.aload_n 0, 1) := by decide +kernel
theorem dX6_ask_16 : decode cX6_ask 16 = .ok (.getfield 124, 3) := by decide +kernel
theorem dX6_ask_19 : decode cX6_ask 19 = .ok (.ifCond .ne 6, 3) := by decide +kernel
theorem dX6_ask_22 : decode cX6_ask 22 = .ok (.bipush (-9), 2) := by decide +kernel
theorem dX6_ask_24 : decode cX6_ask 24 = .ok (.ireturn, 1) := by decide +kernel
theorem dX6_ask_25 : decode cX6_ask 25 = .ok (.iload_n 1, 1) := by decide +kernel
theorem dX6_ask_26 : decode cX6_ask 26 = .ok (.istore_n 3, 1) := by decide +kernel
theorem dX6_ask_27 : decode cX6_ask 27 = .ok (.iload_n 1, 1) := by decide +kernel
theorem dX6_ask_28 : decode cX6_ask 28 = .ok (.istore 4, 2) := by decide +kernel
theorem dX6_ask_30 : decode cX6_ask 30 = .ok (.iload 4, 2) := by decide +kernel
theorem dX6_ask_32 : decode cX6_ask 32 = .ok (.ifCond .lt 59, 3) := by decide +kernel
theorem dX6_ask_35 : decode cX6_ask 35 = .ok (.iload 4, 2) := by decide +kernel
theorem dX6_ask_37 : decode cX6_ask 37 = .ok (.iload_n 1, 1) := by decide +kernel
theorem dX6_ask_38 : decode cX6_ask 38 = .ok (.iconst (-1), 1) := by decide +kernel
theorem dX6_ask_39 : decode cX6_ask 39 = .ok (.ixor, 1) := by decide +kernel
theorem dX6_ask_40 : decode cX6_ask 40 = .ok (.iand, 1) := by decide +kernel
theorem dX6_ask_41 : decode cX6_ask 41 = .ok (.ifCond .ne 29, 3) := by decide +kernel
theorem dX6_ask_44 : decode cX6_ask 44 = .ok (.iload 4, 2) := by decide +kernel
theorem dX6_ask_46 : decode cX6_ask 46 = .ok (.invokestatic 95, 3) := by decide +kernel
theorem dX6_ask_49 : decode cX6_ask 49 = .ok (.iload_n 3, 1) := by decide +kernel
theorem dX6_ask_50 : decode cX6_ask 50 = .ok (.invokestatic 95, 3) := by decide +kernel
theorem dX6_ask_53 : decode cX6_ask 53 = .ok (.if_icmp .gt 17, 3) := by decide +kernel
theorem dX6_ask_56 : decode cX6_ask 56 = .ok (.aload_n 0, 1) := by decide +kernel
theorem dX6_ask_57 : decode cX6_ask 57 = .ok (.iload 4, 2) := by decide +kernel
theorem dX6_ask_59 : decode cX6_ask 59 = .ok (.iload_n 2, 1) := by decide +kernel
theorem dX6_ask_60 : decode cX6_ask 60 = .ok (.invokevirtual 154, 3) := by decide +kernel
theorem dX6_ask_63 : decode cX6_ask 63 = .ok (.ifCond .eq 7, 3) := by decide +kernel
theorem dX6_ask_66 : decode cX6_ask 66 = .ok (.iconst 1, 1) := by decide +kernel
theorem dX6_ask_67 : decode cX6_ask 67 = .ok (.goto 4, 3) := by decide +kernel
theorem dX6_ask_70 : decode cX6_ask 70 = .ok (.iconst 0, 1) := by decide +kernel
theorem dX6_ask_71 : decode cX6_ask 71 = .ok (.istore 5, 2) := by decide +kernel
theorem dX6_ask_73 : decode cX6_ask 73 = .ok (.iload 5, 2) := by decide +kernel
theorem dX6_ask_75 : decode cX6_ask 75 = .ok (.ifCond .eq 8, 3) := by decide +kernel
theorem dX6_ask_78 : decode cX6_ask 78 = .ok (.iload 4, 2) := by decide +kernel
theorem dX6_ask_80 : decode cX6_ask 80 = .ok (.goto 4, 3) := by decide +kernel
theorem dX6_ask_83 : decode cX6_ask 83 = .ok (.iload_n 3, 1) := by decide +kernel
theorem dX6_ask_84 : decode cX6_ask 84 = .ok (.istore_n 3, 1) := by decide +kernel
theorem dX6_ask_85 : decode cX6_ask 85 = .ok (.iinc 4 (-1), 3) := by decide +kernel
theorem dX6_ask_88 : decode cX6_ask 88 = .ok (.goto (-58), 3) := by decide +kernel
theorem dX6_ask_91 : decode cX6_ask 91 = .ok (.iload_n 3, 1) := by decide +kernel
theorem dX6_ask_92 : decode cX6_ask 92 = .ok (.ireturn, 1) := by decide +kernel
theorem dX6_hang_0 : decode cX6_hang 0 = .ok (.aload_n 0, 1) := by decide +kernel
theorem dX6_hang_1 : decode cX6_hang 1 = .ok (.aload_n 0, 1) := by decide +kernel
theorem dX6_hang_2 : decode cX6_hang 2 = .ok (.invokevirtual 114, 3) := by decide +kernel
theorem dX6_hang_5 : decode cX6_hang 5 = .ok (.invokevirtual 130, 3) := by decide +kernel
theorem dX6_hang_8 : decode cX6_hang 8 = .ok (.bipush (-9), 2) := by decide +kernel
theorem dX6_hang_10 : decode cX6_hang 10 = .ok (.istore_n 1, 1) := by decide +kernel
theorem dX6_hang_11 : decode cX6_hang 11 = .ok (.iconst 0, 1) := by decide +kernel
theorem dX6_hang_12 : decode cX6_hang 12 = .ok (.istore_n 2, 1) := by decide +kernel
theorem dX6_hang_13 : decode cX6_hang 13 = .ok (.iconst 0, 1) := by decide +kernel
theorem dX6_hang_14 : decode cX6_hang 14 = .ok (.istore_n 3, 1) := by decide +kernel
theorem dX6_hang_15 : decode cX6_hang 15 = .ok (.iload_n 3, 1) := by decide +kernel
theorem dX6_hang_16 : decode cX6_hang 16 = .ok (.aload_n 0, 1) := by decide +kernel
theorem dX6_hang_17 : decode cX6_hang 17 = .ok (.getfield 13, 3) := by decide +kernel
theorem dX6_hang_20 : decode cX6_hang 20 = .ok (.iconst 0, 1) := by decide +kernel
theorem dX6_hang_21 : decode cX6_hang 21 = .ok (.iaload, 1) := by decide +kernel
theorem dX6_hang_22 : decode cX6_hang 22 = .ok (.if_icmp .ge 53, 3) := by decide +kernel
theorem dX6_hang_25 : decode cX6_hang 25 = .ok (.aload_n 0, 1) := by decide +kernel
theorem dX6_hang_26 : decode cX6_hang 26 = .ok (.iload_n 3, 1) := by decide +kernel
theorem dX6_hang_27 : decode cX6_hang 27 = .ok (.invokevirtual 141, 3) := by decide +kernel
theorem dX6_hang_30 : decode cX6_hang 30 = .ok (.ifCond .eq 11, 3) := by decide +kernel
theorem dX6_hang_33 : decode cX6_hang 33 = .ok (.aload_n 0, 1) := by decide +kernel
theorem dX6_hang_34 : decode cX6_hang 34 = .ok (.iload_n 3, 1) := by decide +kernel
theorem dX6_hang_35 : decode cX6_hang 35 = .ok (.invokevirtual 148, 3) := by decide +kernel
theorem dX6_hang_38 : decode cX6_hang 38 = .ok (.goto 4, 3) := by decide +kernel
theorem dX6_hang_41 : decode cX6_hang 41 = .ok (.iconst 0, 1) := by decide +kernel
theorem dX6_hang_42 : decode cX6_hang 42 = .ok (.istore 4, 2) := by decide +kernel
theorem dX6_hang_44 : decode cX6_hang 44 = .ok (.iload 4, 2) := by decide +kernel
theorem dX6_hang_46 : decode cX6_hang 46 = .ok (.iload_n 2, 1) := by decide +kernel
theorem dX6_hang_47 : decode cX6_hang 47 = .ok (.if_icmp .le 7, 3) := by decide +kernel
theorem dX6_hang_50 : decode cX6_hang 50 = .ok (.iload_n 3, 1) := by decide +kernel
theorem dX6_hang_51 : decode cX6_hang 51 = .ok (.goto 4, 3) := by decide +kernel
theorem dX6_hang_54 : decode cX6_hang 54 = .ok (.iload_n 1, 1) := by decide +kernel
theorem dX6_hang_55 : decode cX6_hang 55 = .ok (.istore_n 1, 1) := by decide +kernel
theorem dX6_hang_56 : decode cX6_hang 56 = .ok (.iload 4, 2) := by decide +kernel
theorem dX6_hang_58 : decode cX6_hang 58 = .ok (.iload_n 2, 1) := by decide +kernel
theorem dX6_hang_59 : decode cX6_hang 59 = .ok (.if_icmp .le 8, 3) := by decide +kernel
theorem dX6_hang_62 : decode cX6_hang 62 = .ok (.iload 4, 2) := by decide +kernel
theorem dX6_hang_64 : decode cX6_hang 64 = .ok (.goto 4, 3) := by decide +kernel
theorem dX6_hang_67 : decode cX6_hang 67 = .ok (.iload_n 2, 1) := by decide +kernel
theorem dX6_hang_68 : decode cX6_hang 68 = .ok (.istore_n 2, 1) := by decide +kernel
theorem dX6_hang_69 : decode cX6_hang 69 = .ok (.iinc 3 1, 3) := by decide +kernel
theorem dX6_hang_72 : decode cX6_hang 72 = .ok (.goto (-57), 3) := by decide +kernel
theorem dX6_hang_75 : decode cX6_hang 75 = .ok (.iload_n 1, 1) := by decide +kernel
theorem dX6_hang_76 : decode cX6_hang 76 = .ok (.ireturn, 1) := by decide +kernel
theorem dX6_shift_0 : decode cX6_shift 0 = .ok (.iload_n 1, 1) := by decide +kernel
theorem dX6_shift_1 : decode cX6_shift 1 = .ok (.iconst 0, 1) := by decide +kernel
theorem dX6_shift_2 : decode cX6_shift 2 = .ok (.iconst 1, 1) := by decide +kernel
theorem dX6_shift_3 : decode cX6_shift 3 = .ok (.invokestatic 52, 3) := by decide +kernel
theorem dX6_shift_6 : decode cX6_shift 6 = .ok (.ifCond .ne 5, 3) := by decide +kernel
theorem dX6_shift_9 : decode cX6_shift 9 = .ok (.iconst (-1), 1) := by decide +kernel
theorem dX6_shift_10 : decode cX6_shift 10 = .ok (.ireturn, 1) := by decide +kernel
theorem dX6_shift_11 : decode cX6_shift 11 = .ok (.bipush (-9), 2) := by decide +kernel
theorem dX6_shift_13 : decode cX6_shift 13 = .ok (.istore_n 2, 1) := by decide +kernel
theorem dX6_shift_14 : decode cX6_shift 14 = .ok (.bipush (-9), 2) := by decide +kernel
theorem dX6_shift_16 : decode cX6_shift 16 = .ok (.istore_n 3, 1) := by decide +kernel
theorem dX6_shift_17 : decode cX6_shift 17 = .ok (.iconst 0, 1) := by decide +kernel
theorem dX6_shift_18 : decode cX6_shift 18 = .ok (.istore 4, 2) := by decide +kernel
theorem dX6_shift_20 : decode cX6_shift 20 = .ok (.iload 4, 2) := by decide +kernel
theorem dX6_shift_22 : decode cX6_shift 22 = .ok (.aload_n 0, 1) := by decide +kernel
theorem dX6_shift_23 : decode cX6_shift 23 = .ok (.getfield 13, 3) := by decide +kernel
theorem dX6_shift_26 : decode cX6_shift 26 = .ok (.iconst 2, 1) := by decide +kernel
theorem dX6_shift_27 : decode cX6_shift 27 = .ok (.iaload, 1) := by decide +kernel
theorem dX6_shift_28 : decode cX6_shift 28 = .ok (.if_icmp .ge 84, 3) := by decide +kernel
theorem dX6_shift_31 : decode cX6_shift 31 = .ok (.aload_n 0, 1) := by decide +kernel
theorem dX6_shift_32 : decode cX6_shift 32 = .ok (.getfield 19, 3) := by decide +kernel
theorem dX6_shift_35 : decode cX6_shift 35 = .ok (.iconst 2, 1) := by decide +kernel
theorem dX6_shift_36 : decode cX6_shift 36 = .ok (.iload 4, 2) := by decide +kernel
theorem dX6_shift_38 : decode cX6_shift 38 = .ok (.iadd, 1) := by decide +kernel
theorem dX6_shift_39 : decode cX6_shift 39 = .ok (.iaload, 1) := by decide +kernel
theorem dX6_shift_40 : decode cX6_shift 40 = .ok (.ifCond .lt 66, 3) := by decide +kernel
theorem dX6_shift_43 : decode cX6_shift 43 = .ok (.aload_n 0, 1) := by decide +kernel
theorem dX6_shift_44 : decode cX6_shift 44 = .ok (.invokevirtual 114, 3) := by decide +kernel
theorem dX6_shift_47 : decode cX6_shift 47 = .ok (.iconst 1, 1) := by decide +kernel
theorem dX6_shift_48 : decode cX6_shift 48 = .ok (.aload_n 0, 1) := by decide +kernel
theorem dX6_shift_49 : decode cX6_shift 49 = .ok (.getfield 19, 3) := by decide +kernel
theorem dX6_shift_52 : decode cX6_shift 52 = .ok (.iconst 2, 1) := by decide +kernel
theorem dX6_shift_53 : decode cX6_shift 53 = .ok (.iload 4, 2) := by decide +kernel
theorem dX6_shift_55 : decode cX6_shift 55 = .ok (.iadd, 1) := by decide +kernel
theorem dX6_shift_56 : decode cX6_shift 56 = .ok (.iaload, 1) := by decide +kernel
theorem dX6_shift_57 : decode cX6_shift 57 = .ok (.ishl, 1) := by decide +kernel
theorem dX6_shift_58 : decode cX6_shift 58 = .ok (.iconst (-1), 1) := by decide +kernel
theorem dX6_shift_59 : decode cX6_shift 59 = .ok (.ixor, 1) := by decide +kernel
theorem dX6_shift_60 : decode cX6_shift 60 = .ok (.iand, 1) := by decide +kernel
theorem dX6_shift_61 : decode cX6_shift 61 = .ok (.istore 5, 2) := by decide +kernel
theorem dX6_shift_63 : decode cX6_shift 63 = .ok (.aload_n 0, 1) := by decide +kernel
theorem dX6_shift_64 : decode cX6_shift 64 = .ok (.iload 5, 2) := by decide +kernel
theorem dX6_shift_66 : decode cX6_shift 66 = .ok (.invokevirtual 130, 3) := by decide +kernel
theorem dX6_shift_69 : decode cX6_shift 69 = .ok (.aload_n 0, 1) := by decide +kernel
theorem dX6_shift_70 : decode cX6_shift 70 = .ok (.iload 5, 2) := by decide +kernel
theorem dX6_shift_72 : decode cX6_shift 72 = .ok (.invokevirtual 138, 3) := by decide +kernel
theorem dX6_shift_75 : decode cX6_shift 75 = .ok (.invokestatic 95, 3) := by decide +kernel
theorem dX6_shift_78 : decode cX6_shift 78 = .ok (.istore 6, 2) := by decide +kernel
theorem dX6_shift_80 : decode cX6_shift 80 = .ok (.iload 6, 2) := by decide +kernel
theorem dX6_shift_82 : decode cX6_shift 82 = .ok (.iload_n 3, 1) := by decide +kernel
theorem dX6_shift_83 : decode cX6_shift 83 = .ok (.if_icmp .le 8, 3) := by decide +kernel
theorem dX6_shift_86 : decode cX6_shift 86 = .ok (.iload 4, 2) := by decide +kernel
theorem dX6_shift_88 : decode cX6_shift 88 = .ok (.goto 4, 3) := by decide +kernel
theorem dX6_shift_91 : decode cX6_shift 91 = .ok (.iload_n 2, 1) := by decide +kernel
theorem dX6_shift_92 : decode cX6_shift 92 = .ok (.istore_n 2, 1) := by decide +kernel
theorem dX6_shift_93 : decode cX6_shift 93 = .ok (.iload 6, 2) := by decide +kernel
theorem dX6_shift_95 : decode cX6_shift 95 = .ok (.iload_n 3, 1) := by decide +kernel
theorem dX6_shift_96 : decode cX6_shift 96 = .ok (.if_icmp .le 8, 3) := by decide +kernel
theorem dX6_shift_99 : decode cX6_shift 99 = .ok (.iload 6, 2) := by decide +kernel
theorem dX6_shift_101 : decode cX6_shift 101 = .ok (.goto 4, 3) := by decide +kernel
theorem dX6_shift_104 : decode cX6_shift 104 = .ok (.iload_n 3, 1) := by decide +kernel
theorem dX6_shift_105 : decode cX6_shift 105 = .ok (.istore_n 3, 1) := by decide +kernel
theorem dX6_shift_106 : decode cX6_shift 106 = .ok (.iinc 4 1, 3) := by decide +kernel
theorem dX6_shift_109 : decode cX6_shift 109 = .ok (.goto (-89), 3) := by decide +kernel
theorem dX6_shift_112 : decode cX6_shift 112 = .ok (.iload_n 1, 1) := by decide +kernel
theorem dX6_shift_113 : decode cX6_shift 113 = .ok (.ifCond .ne 7, 3) := by decide +kernel
theorem dX6_shift_116 : decode cX6_shift 116 = .ok (.iload_n 2, 1) := by decide +kernel
theorem dX6_shift_117 : decode cX6_shift 117 = .ok (.goto 4, 3) := by decide +kernel
theorem dX6_shift_120 : decode cX6_shift 120 = .ok (.iload_n 3, 1) := by decide +kernel
theorem dX6_shift_121 : decode cX6_shift 121 = .ok (.ireturn, 1) := by decide +kernel
theorem dX6_odds_0 : decode cX6_odds 0 = .ok (.iload_n 1, 1) := by decide +kernel
theorem dX6_odds_1 : decode cX6_odds 1 = .ok (.iconst 0, 1) := by decide +kernel
theorem dX6_odds_2 : decode cX6_odds 2 = .ok (.bipush 10, 2) := by decide +kernel
theorem dX6_odds_4 : decode cX6_odds 4 = .ok (.invokestatic 52, 3) := by decide +kernel
theorem dX6_odds_7 : decode cX6_odds 7 = .ok (.ifCond .eq 22, 3) := by decide +kernel
theorem dX6_odds_10 : decode cX6_odds 10 = .ok (.iload_n 2, 1) := by decide +kernel
theorem dX6_odds_11 : decode cX6_odds 11 = .ok (.iconst 0, 1) := by decide +kernel
theorem dX6_odds_12 : decode cX6_odds 12 = .ok (.bipush 7, 2) := by decide +kernel
theorem dX6_odds_14 : decode cX6_odds 14 = .ok (.invokestatic 52, 3) := by decide +kernel
theorem dX6_odds_17 : decode cX6_odds 17 = .ok (.ifCond .eq 12, 3) := by decide +kernel
theorem dX6_odds_20 : decode cX6_odds 20 = .ok (.iload_n 3, 1) := by decide +kernel
theorem dX6_odds_21 : decode cX6_odds 21 = .ok (.iconst 0, 1) := by decide +kernel
theorem dX6_odds_22 : decode cX6_odds 22 = .ok (.iconst 1, 1) := by decide +kernel
theorem dX6_odds_23 : decode cX6_odds 23 = .ok (.invokestatic 52, 3) := by decide +kernel
theorem dX6_odds_26 : decode cX6_odds 26 = .ok (.ifCond .ne 5, 3) := by decide +kernel
theorem dX6_odds_29 : decode cX6_odds 29 = .ok (.iconst (-1), 1) := by decide +kernel
theorem dX6_odds_30 : decode cX6_odds 30 = .ok (.ireturn, 1) := by decide +kernel
theorem dX6_odds_31 : decode cX6_odds 31 = .ok (.aload_n 0, 1) := by decide +kernel
theorem dX6_odds_32 : decode cX6_odds 32 = .ok (.getfield 13, 3) := by decide +kernel
theorem dX6_odds_35 : decode cX6_odds 35 = .ok (.iconst 0, 1) := by decide +kernel
theorem dX6_odds_36 : decode cX6_odds 36 = .ok (.iaload, 1) := by decide +kernel
theorem dX6_odds_37 : decode cX6_odds 37 = .ok (.aload_n 0, 1) := by decide +kernel
theorem dX6_odds_38 : decode cX6_odds 38 = .ok (.getfield 19, 3) := by decide +kernel
theorem dX6_odds_41 : decode cX6_odds 41 = .ok (.iconst 1, 1) := by decide +kernel
theorem dX6_odds_42 : decode cX6_odds 42 = .ok (.iaload, 1) := by decide +kernel
theorem dX6_odds_43 : decode cX6_odds 43 = .ok (.invokestatic 95, 3) := by decide +kernel
theorem dX6_odds_46 : decode cX6_odds 46 = .ok (.isub, 1) := by decide +kernel
theorem dX6_odds_47 : decode cX6_odds 47 = .ok (.istore 4, 2) := by decide +kernel
theorem dX6_odds_49 : decode cX6_odds 49 = .ok (.iconst 0, 1) := by decide +kernel
theorem dX6_odds_50 : decode cX6_odds 50 = .ok (.istore 5, 2) := by decide +kernel
theorem dX6_odds_52 : decode cX6_odds 52 = .ok (.iconst 1, 1) := by decide +kernel
theorem dX6_odds_53 : decode cX6_odds 53 = .ok (.istore 6, 2) := by decide +kernel
theorem dX6_odds_55 : decode cX6_odds 55 = .ok (.iconst 0, 1) := by decide +kernel
theorem dX6_odds_56 : decode cX6_odds 56 = .ok (.istore 7, 2) := by decide +kernel
theorem dX6_odds_58 : decode cX6_odds 58 = .ok (.iload 7, 2) := by decide +kernel
theorem dX6_odds_60 : decode cX6_odds 60 = .ok (.iload 4, 2) := by decide +kernel
theorem dX6_odds_62 : decode cX6_odds 62 = .ok (.if_icmp .ge 16, 3) := by decide +kernel
theorem dX6_odds_65 : decode cX6_odds 65 = .ok (.iload 6, 2) := by decide +kernel
theorem dX6_odds_67 : decode cX6_odds 67 = .ok (.bipush 10, 2) := by decide +kernel
theorem dX6_odds_69 : decode cX6_odds 69 = .ok (.imul, 1) := by decide +kernel
theorem dX6_odds_70 : decode cX6_odds 70 = .ok (.istore 6, 2) := by decide +kernel
theorem dX6_odds_72 : decode cX6_odds 72 = .ok (.iinc 7 1, 3) := by decide +kernel
theorem dX6_odds_75 : decode cX6_odds 75 = .ok (.goto (-17), 3) := by decide +kernel
theorem dX6_odds_78 : decode cX6_odds 78 = .ok (.iconst 0, 1) := by decide +kernel
theorem dX6_odds_79 : decode cX6_odds 79 = .ok (.istore 7, 2) := by decide +kernel
theorem dX6_odds_81 : decode cX6_odds 81 = .ok (.iload 7, 2) := by decide +kernel
theorem dX6_odds_83 : decode cX6_odds 83 = .ok (.iconst 1, 1) := by decide +kernel
theorem dX6_odds_84 : decode cX6_odds 84 = .ok (.iload 4, 2) := by decide +kernel
theorem dX6_odds_86 : decode cX6_odds 86 = .ok (.ishl, 1) := by decide +kernel
theorem dX6_odds_87 : decode cX6_odds 87 = .ok (.if_icmp .ge 72, 3) := by decide +kernel
theorem dX6_odds_90 : decode cX6_odds 90 = .ok (.iconst 1, 1) := by decide +kernel
theorem dX6_odds_91 : decode cX6_odds 91 = .ok (.istore 8, 2) := by decide +kernel
theorem dX6_odds_93 : decode cX6_odds 93 = .ok (.iconst 0, 1) := by decide +kernel
theorem dX6_odds_94 : decode cX6_odds 94 = .ok (.istore 9, 2) := by decide +kernel
theorem dX6_odds_96 : decode cX6_odds 96 = .ok (.iload 9, 2) := by decide +kernel
theorem dX6_odds_98 : decode cX6_odds 98 = .ok (.iload 4, 2) := by decide +kernel
theorem dX6_odds_100 : decode cX6_odds 100 = .ok (.if_icmp .ge 33, 3) := by decide +kernel
theorem dX6_odds_103 : decode cX6_odds 103 = .ok (.iload 8, 2) := by decide +kernel
theorem dX6_odds_105 : decode cX6_odds 105 = .ok (.iload 7, 2) := by decide +kernel
theorem dX6_odds_107 : decode cX6_odds 107 = .ok (.iload 9, 2) := by decide +kernel
theorem dX6_odds_109 : decode cX6_odds 109 = .ok (.ishr, 1) := by decide +kernel
theorem dX6_odds_110 : decode cX6_odds 110 = .ok (.iconst 1, 1) := by decide +kernel
theorem dX6_odds_111 : decode cX6_odds 111 = .ok (.iand, 1) := by decide +kernel
theorem dX6_odds_112 : decode cX6_odds 112 = .ok (.iconst 1, 1) := by decide +kernel
theorem dX6_odds_113 : decode cX6_odds 113 = .ok (.if_icmp .ne 7, 3) := by decide +kernel
theorem dX6_odds_116 : decode cX6_odds 116 = .ok (.iload_n 1, 1) := by decide +kernel
theorem dX6_odds_117 : decode cX6_odds 117 = .ok (.goto 7, 3) := by decide +kernel
theorem dX6_odds_120 : decode cX6_odds 120 = .ok (.bipush 10, 2) := by decide +kernel
theorem dX6_odds_122 : decode cX6_odds 122 = .ok (.iload_n 1, 1) := by decide +kernel
theorem dX6_odds_123 : decode cX6_odds 123 = .ok (.isub, 1) := by decide +kernel
theorem dX6_odds_124 : decode cX6_odds 124 = .ok (.imul, 1) := by decide +kernel
theorem dX6_odds_125 : decode cX6_odds 125 = .ok (.istore 8, 2) := by decide +kernel
theorem dX6_odds_127 : decode cX6_odds 127 = .ok (.iinc 9 1, 3) := by decide +kernel
theorem dX6_odds_130 : decode cX6_odds 130 = .ok (.goto (-34), 3) := by decide +kernel
theorem dX6_odds_133 : decode cX6_odds 133 = .ok (.iload 5, 2) := by decide +kernel
theorem dX6_odds_135 : decode cX6_odds 135 = .ok (.iload 7, 2) := by decide +kernel
theorem dX6_odds_137 : decode cX6_odds 137 = .ok (.invokestatic 95, 3) := by decide +kernel
theorem dX6_odds_140 : decode cX6_odds 140 = .ok (.iload_n 2, 1) := by decide +kernel
theorem dX6_odds_141 : decode cX6_odds 141 = .ok (.if_icmp .gt 8, 3) := by decide +kernel
theorem dX6_odds_144 : decode cX6_odds 144 = .ok (.iload 8, 2) := by decide +kernel
theorem dX6_odds_146 : decode cX6_odds 146 = .ok (.goto 4, 3) := by decide +kernel
theorem dX6_odds_149 : decode cX6_odds 149 = .ok (.iconst 0, 1) := by decide +kernel
theorem dX6_odds_150 : decode cX6_odds 150 = .ok (.iadd, 1) := by decide +kernel
theorem dX6_odds_151 : decode cX6_odds 151 = .ok (.istore 5, 2) := by decide +kernel
theorem dX6_odds_153 : decode cX6_odds 153 = .ok (.iinc 7 1, 3) := by decide +kernel
theorem dX6_odds_156 : decode cX6_odds 156 = .ok (.goto (-75), 3) := by decide +kernel
theorem dX6_odds_159 : decode cX6_odds 159 = .ok (.iload 5, 2) := by decide +kernel
theorem dX6_odds_161 : decode cX6_odds 161 = .ok (.iload 6, 2) := by decide +kernel
theorem dX6_odds_163 : decode cX6_odds 163 = .ok (.invokestatic 151, 3) := by decide +kernel
theorem dX6_odds_166 : decode cX6_odds 166 = .ok (.istore 7, 2) := by decide +kernel
theorem dX6_odds_168 : decode cX6_odds 168 = .ok (.iload_n 3, 1) := by decide +kernel
theorem dX6_odds_169 : decode cX6_odds 169 = .ok (.ifCond .ne 11, 3) := by decide +kernel
theorem dX6_odds_172 : decode cX6_odds 172 = .ok (.iload 5, 2) := by decide +kernel
theorem dX6_odds_174 : decode cX6_odds 174 = .ok (.iload 7, 2) := by decide +kernel
theorem dX6_odds_176 : decode cX6_odds 176 = .ok (.idiv, 1) := by decide +kernel
theorem dX6_odds_177 : decode cX6_odds 177 = .ok (.goto 8, 3) := by decide +kernel
theorem dX6_odds_180 : decode cX6_odds 180 = .ok (.iload 6, 2) := by decide +kernel
theorem dX6_odds_182 : decode cX6_odds 182 = .ok (.iload 7, 2) := by decide +kernel
theorem dX6_odds_184 : decode cX6_odds 184 = .ok (.idiv, 1) := by decide +kernel
theorem dX6_odds_185 : decode cX6_odds 185 = .ok (.ireturn, 1) := by decide +kernel
theorem dX6_bold_0 : decode cX6_bold 0 = .ok (.iload_n 1, 1) := by decide +kernel
theorem dX6_bold_1 : decode cX6_bold 1 = .ok (.iconst 0, 1) := by decide +kernel
theorem dX6_bold_2 : decode cX6_bold 2 = .ok (.bipush 7, 2) := by decide +kernel
theorem dX6_bold_4 : decode cX6_bold 4 = .ok (.invokestatic 52, 3) := by decide +kernel
theorem dX6_bold_7 : decode cX6_bold 7 = .ok (.ifCond .ne 5, 3) := by decide +kernel
theorem dX6_bold_10 : decode cX6_bold 10 = .ok (.iconst (-1), 1) := by decide +kernel
theorem dX6_bold_11 : decode cX6_bold 11 = .ok (.ireturn, 1) := by decide +kernel
theorem dX6_bold_12 : decode cX6_bold 12 = .ok (.iconst 0, 1) := by decide +kernel
theorem dX6_bold_13 : decode cX6_bold 13 = .ok (.istore_n 2, 1) := by decide +kernel
theorem dX6_bold_14 : decode cX6_bold 14 = .ok (.iconst 0, 1) := by decide +kernel
theorem dX6_bold_15 : decode cX6_bold 15 = .ok (.istore_n 3, 1) := by decide +kernel
theorem dX6_bold_16 : decode cX6_bold 16 = .ok (.iload_n 3, 1) := by decide +kernel
theorem dX6_bold_17 : decode cX6_bold 17 = .ok (.aload_n 0, 1) := by decide +kernel
theorem dX6_bold_18 : decode cX6_bold 18 = .ok (.getfield 13, 3) := by decide +kernel
theorem dX6_bold_21 : decode cX6_bold 21 = .ok (.iconst 0, 1) := by decide +kernel
theorem dX6_bold_22 : decode cX6_bold 22 = .ok (.iaload, 1) := by decide +kernel
theorem dX6_bold_23 : decode cX6_bold 23 = .ok (.if_icmp .ge 30, 3) := by decide +kernel
theorem dX6_bold_26 : decode cX6_bold 26 = .ok (.iload_n 2, 1) := by decide +kernel
theorem dX6_bold_27 : decode cX6_bold 27 = .ok (.aload_n 0, 1) := by decide +kernel
theorem dX6_bold_28 : decode cX6_bold 28 = .ok (.getfield 13, 3) := by decide +kernel
theorem dX6_bold_31 : decode cX6_bold 31 = .ok (.bipush 12, 2) := by decide +kernel
theorem dX6_bold_33 : decode cX6_bold 33 = .ok (.iload_n 3, 1) := by decide +kernel
theorem dX6_bold_34 : decode cX6_bold 34 = .ok (.iadd, 1) := by decide +kernel
theorem dX6_bold_35 : decode cX6_bold 35 = .ok (.iaload, 1) := by decide +kernel
theorem dX6_bold_36 : decode cX6_bold 36 = .ok (.iload_n 1, 1) := by decide +kernel
theorem dX6_bold_37 : decode cX6_bold 37 = .ok (.if_icmp .gt 7, 3) := by decide +kernel
theorem dX6_bold_40 : decode cX6_bold 40 = .ok (.iconst 1, 1) := by decide +kernel
theorem dX6_bold_41 : decode cX6_bold 41 = .ok (.goto 4, 3) := by decide +kernel
theorem dX6_bold_44 : decode cX6_bold 44 = .ok (.iconst 0, 1) := by decide +kernel
theorem dX6_bold_45 : decode cX6_bold 45 = .ok (.iadd, 1) := by decide +kernel
theorem dX6_bold_46 : decode cX6_bold 46 = .ok (.istore_n 2, 1) := by decide +kernel
theorem dX6_bold_47 : decode cX6_bold 47 = .ok (.iinc 3 1, 3) := by decide +kernel
theorem dX6_bold_50 : decode cX6_bold 50 = .ok (.goto (-34), 3) := by decide +kernel
theorem dX6_bold_53 : decode cX6_bold 53 = .ok (.iload_n 2, 1) := by decide +kernel
theorem dX6_bold_54 : decode cX6_bold 54 = .ok (.ireturn, 1) := by decide +kernel
theorem dX6_clique_0 : decode cX6_clique 0 = .ok (.iload_n 1, 1) := by decide +kernel
theorem dX6_clique_1 : decode cX6_clique 1 = .ok (.iconst 0, 1) := by decide +kernel
theorem dX6_clique_2 : decode cX6_clique 2 = .ok (.iconst 1, 1) := by decide +kernel
theorem dX6_clique_3 : decode cX6_clique 3 = .ok (.invokestatic 52, 3) := by decide +kernel
theorem dX6_clique_6 : decode cX6_clique 6 = .ok (.ifCond .ne 5, 3) := by decide +kernel
theorem dX6_clique_9 : decode cX6_clique 9 = .ok (.iconst (-1), 1) := by decide +kernel
theorem dX6_clique_10 : decode cX6_clique 10 = .ok (.ireturn, 1) := by decide +kernel
theorem dX6_clique_11 : decode cX6_clique 11 = .ok (.iconst 0, 1) := by decide +kernel
theorem dX6_clique_12 : decode cX6_clique 12 = .ok (.istore_n 2, 1) := by decide +kernel
theorem dX6_clique_13 : decode cX6_clique 13 = .ok (.iconst 0, 1) := by decide +kernel
theorem dX6_clique_14 : decode cX6_clique 14 = .ok (.istore_n 3, 1) := by decide +kernel
theorem dX6_clique_15 : decode cX6_clique 15 = .ok (.iload_n 3, 1) := by decide +kernel
theorem dX6_clique_16 : decode cX6_clique 16 = .ok (.iconst 1, 1) := by decide +kernel
theorem dX6_clique_17 : decode cX6_clique 17 = .ok (.aload_n 0, 1) := by decide +kernel
theorem dX6_clique_18 : decode cX6_clique 18 = .ok (.getfield 13, 3) := by decide +kernel
theorem dX6_clique_21 : decode cX6_clique 21 = .ok (.iconst 0, 1) := by decide +kernel
theorem dX6_clique_22 : decode cX6_clique 22 = .ok (.iaload, 1) := by decide +kernel
theorem dX6_clique_23 : decode cX6_clique 23 = .ok (.ishl, 1) := by decide +kernel
theorem dX6_clique_24 : decode cX6_clique 24 = .ok (.if_icmp .ge 100, 3) := by decide +kernel
theorem dX6_clique_27 : decode cX6_clique 27 = .ok (.iload_n 3, 1) := by decide +kernel
theorem dX6_clique_28 : decode cX6_clique 28 = .ok (.invokestatic 95, 3) := by decide +kernel
theorem dX6_clique_31 : decode cX6_clique 31 = .ok (.iload_n 2, 1) := by decide +kernel
theorem dX6_clique_32 : decode cX6_clique 32 = .ok (.invokestatic 95, 3) := by decide +kernel
theorem dX6_clique_35 : decode cX6_clique 35 = .ok (.if_icmp .le 7, 3) := by decide +kernel
theorem dX6_clique_38 : decode cX6_clique 38 = .ok (.iconst 1, 1) := by decide +kernel
theorem dX6_clique_39 : decode cX6_clique 39 = .ok (.goto 4, 3) := by decide +kernel
theorem dX6_clique_42 : decode cX6_clique 42 = .ok (.iconst 0, 1) := by decide +kernel
theorem dX6_clique_43 : decode cX6_clique 43 = .ok (.istore 4, 2) := by decide +kernel
theorem dX6_clique_45 : decode cX6_clique 45 = .ok (.iconst 0, 1) := by decide +kernel
theorem dX6_clique_46 : decode cX6_clique 46 = .ok (.istore 5, 2) := by decide +kernel
theorem dX6_clique_48 : decode cX6_clique 48 = .ok (.iload 5, 2) := by decide +kernel
theorem dX6_clique_50 : decode cX6_clique 50 = .ok (.aload_n 0, 1) := by decide +kernel
theorem dX6_clique_51 : decode cX6_clique 51 = .ok (.getfield 13, 3) := by decide +kernel
theorem dX6_clique_54 : decode cX6_clique 54 = .ok (.iconst 0, 1) := by decide +kernel
theorem dX6_clique_55 : decode cX6_clique 55 = .ok (.iaload, 1) := by decide +kernel
theorem dX6_clique_56 : decode cX6_clique 56 = .ok (.if_icmp .ge 51, 3) := by decide +kernel
theorem dX6_clique_59 : decode cX6_clique 59 = .ok (.iload 4, 2) := by decide +kernel
theorem dX6_clique_61 : decode cX6_clique 61 = .ok (.ifCond .eq 37, 3) := by decide +kernel
theorem dX6_clique_64 : decode cX6_clique 64 = .ok (.iload_n 3, 1) := by decide +kernel
theorem dX6_clique_65 : decode cX6_clique 65 = .ok (.iload 5, 2) := by decide +kernel
theorem dX6_clique_67 : decode cX6_clique 67 = .ok (.ishr, 1) := by decide +kernel
theorem dX6_clique_68 : decode cX6_clique 68 = .ok (.iconst 1, 1) := by decide +kernel
theorem dX6_clique_69 : decode cX6_clique 69 = .ok (.iand, 1) := by decide +kernel
theorem dX6_clique_70 : decode cX6_clique 70 = .ok (.ifCond .eq 24, 3) := by decide +kernel
theorem dX6_clique_73 : decode cX6_clique 73 = .ok (.iload_n 3, 1) := by decide +kernel
theorem dX6_clique_74 : decode cX6_clique 74 = .ok (.aload_n 0, 1) := by decide +kernel
theorem dX6_clique_75 : decode cX6_clique 75 = .ok (.getfield 13, 3) := by decide +kernel
theorem dX6_clique_78 : decode cX6_clique 78 = .ok (.bipush 19, 2) := by decide +kernel
theorem dX6_clique_80 : decode cX6_clique 80 = .ok (.iload 5, 2) := by decide +kernel
theorem dX6_clique_82 : decode cX6_clique 82 = .ok (.iadd, 1) := by decide +kernel
theorem dX6_clique_83 : decode cX6_clique 83 = .ok (.iaload, 1) := by decide +kernel
theorem dX6_clique_84 : decode cX6_clique 84 = .ok (.iconst (-1), 1) := by decide +kernel
theorem dX6_clique_85 : decode cX6_clique 85 = .ok (.ixor, 1) := by decide +kernel
theorem dX6_clique_86 : decode cX6_clique 86 = .ok (.iand, 1) := by decide +kernel
theorem dX6_clique_87 : decode cX6_clique 87 = .ok (.iconst 1, 1) := by decide +kernel
theorem dX6_clique_88 : decode cX6_clique 88 = .ok (.iload 5, 2) := by decide +kernel
theorem dX6_clique_90 : decode cX6_clique 90 = .ok (.ishl, 1) := by decide +kernel
theorem dX6_clique_91 : decode cX6_clique 91 = .ok (.if_icmp .ne 7, 3) := by decide +kernel
theorem dX6_clique_94 : decode cX6_clique 94 = .ok (.iconst 1, 1) := by decide +kernel
theorem dX6_clique_95 : decode cX6_clique 95 = .ok (.goto 4, 3) := by decide +kernel
theorem dX6_clique_98 : decode cX6_clique 98 = .ok (.iconst 0, 1) := by decide +kernel
theorem dX6_clique_99 : decode cX6_clique 99 = .ok (.istore 4, 2) := by decide +kernel
theorem dX6_clique_101 : decode cX6_clique 101 = .ok (.iinc 5 1, 3) := by decide +kernel
theorem dX6_clique_104 : decode cX6_clique 104 = .ok (.goto (-56), 3) := by decide +kernel
theorem dX6_clique_107 : decode cX6_clique 107 = .ok (.iload 4, 2) := by decide +kernel
theorem dX6_clique_109 : decode cX6_clique 109 = .ok (.ifCond .eq 7, 3) := by decide +kernel
theorem dX6_clique_112 : decode cX6_clique 112 = .ok (.iload_n 3, 1) := by decide +kernel
theorem dX6_clique_113 : decode cX6_clique 113 = .ok (.goto 4, 3) := by decide +kernel
theorem dX6_clique_116 : decode cX6_clique 116 = .ok (.iload_n 2, 1) := by decide +kernel
theorem dX6_clique_117 : decode cX6_clique 117 = .ok (.istore_n 2, 1) := by decide +kernel
theorem dX6_clique_118 : decode cX6_clique 118 = .ok (.iinc 3 1, 3) := by decide +kernel
theorem dX6_clique_121 : decode cX6_clique 121 = .ok (.goto (-106), 3) := by decide +kernel
theorem dX6_clique_124 : decode cX6_clique 124 = .ok (.iload_n 1, 1) := by decide +kernel
theorem dX6_clique_125 : decode cX6_clique 125 = .ok (.ifCond .ne 10, 3) := by decide +kernel
theorem dX6_clique_128 : decode cX6_clique 128 = .ok (.iload_n 2, 1) := by decide +kernel
theorem dX6_clique_129 : decode cX6_clique 129 = .ok (.invokestatic 95, 3) := by decide +kernel
theorem dX6_clique_132 : decode cX6_clique 132 = .ok (.goto 4, 3) := by decide +kernel
theorem dX6_clique_135 : decode cX6_clique 135 = .ok (.iload_n 2, 1) := by decide +kernel
theorem dX6_clique_136 : decode cX6_clique 136 = .ok (.ireturn, 1) := by decide +kernel
theorem dX6_rate_0 : decode cX6_rate 0 = .ok (.iload_n 1, 1) := by decide +kernel
theorem dX6_rate_1 : decode cX6_rate 1 = .ok (.iconst 0, 1) := by decide +kernel
theorem dX6_rate_2 : decode cX6_rate 2 = .ok (.iconst 5, 1) := by decide +kernel
theorem dX6_rate_3 : decode cX6_rate 3 = .ok (.invokestatic 52, 3) := by decide +kernel
theorem dX6_rate_6 : decode cX6_rate 6 = .ok (.ifCond .eq 11, 3) := by decide +kernel
theorem dX6_rate_9 : decode cX6_rate 9 = .ok (.aload_n 0, 1) := by decide +kernel
theorem dX6_rate_10 : decode cX6_rate 10 = .ok (.iload_n 2, 1) := by decide +kernel
theorem dX6_rate_11 : decode cX6_rate 11 = .ok (.invokevirtual 102, 3) := by decide +kernel
theorem dX6_rate_14 : decode cX6_rate 14 = .ok (.ifCond .ne 6, 3) := by decide +kernel
theorem dX6_rate_17 : decode cX6_rate 17 = .ok (.ldc 157, 2) := by decide +kernel
theorem dX6_rate_19 : decode cX6_rate 19 = .ok (.ireturn, 1) := by decide +kernel
theorem dX6_rate_20 : decode cX6_rate 20 = .ok (.aload_n 0, 1) := by decide +kernel
theorem dX6_rate_21 : decode cX6_rate 21 = .ok (.dup, 1) := by decide +kernel
theorem dX6_rate_22 : decode cX6_rate 22 = .ok (.getfield 158, 3) := by decide +kernel
theorem dX6_rate_25 : decode cX6_rate 25 = .ok (.iload_n 1, 1) := by decide +kernel
theorem dX6_rate_26 : decode cX6_rate 26 = .ok (.ifCond .ne 7, 3) := by decide +kernel
theorem dX6_rate_29 : decode cX6_rate 29 = .ok (.lconst 1, 1) := by decide +kernel
theorem dX6_rate_30 : decode cX6_rate 30 = .ok (.goto 50, 3) := by decide +kernel
theorem dX6_rate_33 : decode cX6_rate 33 = .ok (.iload_n 1, 1) := by decide +kernel
theorem dX6_rate_34 : decode cX6_rate 34 = .ok (.iconst 1, 1) := by decide +kernel
theorem dX6_rate_35 : decode cX6_rate 35 = .ok (.if_icmp .ne 9, 3) := by decide +kernel
theorem dX6_rate_38 : decode cX6_rate 38 = .ok (.ldc2_w 162, 3) := by decide +kernel
theorem dX6_rate_41 : decode cX6_rate 41 = .ok (.goto 39, 3) := by decide +kernel
theorem dX6_rate_44 : decode cX6_rate 44 = .ok (.iload_n 1, 1) := by decide +kernel
theorem dX6_rate_45 : decode cX6_rate 45 = .ok (.iconst 2, 1) := by decide +kernel
theorem dX6_rate_46 : decode cX6_rate 46 = .ok (.if_icmp .ne 9, 3) := by decide +kernel
theorem dX6_rate_49 : decode cX6_rate 49 = .ok (.ldc2_w 164, 3) := by decide +kernel
theorem dX6_rate_52 : decode cX6_rate 52 = .ok (.goto 28, 3) := by decide +kernel
theorem dX6_rate_55 : decode cX6_rate 55 = .ok (.iload_n 1, 1) := by decide +kernel
theorem dX6_rate_56 : decode cX6_rate 56 = .ok (.iconst 3, 1) := by decide +kernel
theorem dX6_rate_57 : decode cX6_rate 57 = .ok (.if_icmp .ne 9, 3) := by decide +kernel
theorem dX6_rate_60 : decode cX6_rate 60 = .ok (.ldc2_w 166, 3) := by decide +kernel
theorem dX6_rate_63 : decode cX6_rate 63 = .ok (.goto 17, 3) := by decide +kernel
theorem dX6_rate_66 : decode cX6_rate 66 = .ok (.iload_n 1, 1) := by decide +kernel
theorem dX6_rate_67 : decode cX6_rate 67 = .ok (.iconst 4, 1) := by decide +kernel
theorem dX6_rate_68 : decode cX6_rate 68 = .ok (.if_icmp .ne 9, 3) := by decide +kernel
theorem dX6_rate_71 : decode cX6_rate 71 = .ok (.ldc2_w 168, 3) := by decide +kernel
theorem dX6_rate_74 : decode cX6_rate 74 = .ok (.goto 6, 3) := by decide +kernel
theorem dX6_rate_77 : decode cX6_rate 77 = .ok (.ldc2_w 170, 3) := by decide +kernel
theorem dX6_rate_80 : decode cX6_rate 80 = .ok (.ladd, 1) := by decide +kernel
theorem dX6_rate_81 : decode cX6_rate 81 = .ok (.putfield 158, 3) := by decide +kernel
theorem dX6_rate_84 : decode cX6_rate 84 = .ok (.aload_n 0, 1) := by decide +kernel
theorem dX6_rate_85 : decode cX6_rate 85 = .ok (.getfield 13, 3) := by decide +kernel
theorem dX6_rate_88 : decode cX6_rate 88 = .ok (.bipush 12, 2) := by decide +kernel
theorem dX6_rate_90 : decode cX6_rate 90 = .ok (.iload_n 2, 1) := by decide +kernel
theorem dX6_rate_91 : decode cX6_rate 91 = .ok (.iadd, 1) := by decide +kernel
theorem dX6_rate_92 : decode cX6_rate 92 = .ok (.iaload, 1) := by decide +kernel
theorem dX6_rate_93 : decode cX6_rate 93 = .ok (.istore_n 3, 1) := by decide +kernel
theorem dX6_rate_94 : decode cX6_rate 94 = .ok (.iload_n 3, 1) := by decide +kernel
theorem dX6_rate_95 : decode cX6_rate 95 = .ok (.aload_n 0, 1) := by decide +kernel
theorem dX6_rate_96 : decode cX6_rate 96 = .ok (.iload_n 2, 1) := by decide +kernel
theorem dX6_rate_97 : decode cX6_rate 97 = .ok (.invokevirtual 127, 3) := by decide +kernel
theorem dX6_rate_100 : decode cX6_rate 100 = .ok (.iadd, 1) := by decide +kernel
theorem dX6_rate_101 : decode cX6_rate 101 = .ok (.istore 4, 2) := by decide +kernel
theorem dX6_rate_103 : decode cX6_rate 103 = .ok (.iload_n 3, 1) := by decide +kernel
theorem dX6_rate_104 : decode cX6_rate 104 = .ok (.aload_n 0, 1) := by decide +kernel
theorem dX6_rate_105 : decode cX6_rate 105 = .ok (.getfield 13, 3) := by decide +kernel
theorem dX6_rate_108 : decode cX6_rate 108 = .ok (.bipush 19, 2) := by decide +kernel
theorem dX6_rate_110 : decode cX6_rate 110 = .ok (.iload_n 2, 1) := by decide +kernel
theorem dX6_rate_111 : decode cX6_rate 111 = .ok (.iadd, 1) := by decide +kernel
theorem dX6_rate_112 : decode cX6_rate 112 = .ok (.iaload, 1) := by decide +kernel
theorem dX6_rate_113 : decode cX6_rate 113 = .ok (.invokestatic 95, 3) := by decide +kernel
theorem dX6_rate_116 : decode cX6_rate 116 = .ok (.isub, 1) := by decide +kernel
theorem dX6_rate_117 : decode cX6_rate 117 = .ok (.istore 5, 2) := by decide +kernel
theorem dX6_rate_119 : decode cX6_rate 119 = .ok (.iload_n 1, 1) := by decide +kernel
theorem dX6_rate_120 : decode cX6_rate 120 = .ok (.ifCond .ne 7, 3) := by decide +kernel
theorem dX6_rate_123 : decode cX6_rate 123 = .ok (.iload_n 3, 1) := by decide +kernel
theorem dX6_rate_124 : decode cX6_rate 124 = .ok (.goto 55, 3) := by decide +kernel
theorem dX6_rate_127 : decode cX6_rate 127 = .ok (.iload_n 1, 1) := by decide +kernel
theorem dX6_rate_128 : decode cX6_rate 128 = .ok (.iconst 1, 1) := by decide +kernel
theorem dX6_rate_129 : decode cX6_rate 129 = .ok (.if_icmp .ne 8, 3) := by decide +kernel
theorem dX6_rate_132 : decode cX6_rate 132 = .ok (.iload 4, 2) := by decide +kernel
theorem dX6_rate_134 : decode cX6_rate 134 = .ok (.goto 45, 3) := by decide +kernel
theorem dX6_rate_137 : decode cX6_rate 137 = .ok (.iload_n 1, 1) := by decide +kernel
theorem dX6_rate_138 : decode cX6_rate 138 = .ok (.iconst 2, 1) := by decide +kernel
theorem dX6_rate_139 : decode cX6_rate 139 = .ok (.if_icmp .ne 8, 3) := by decide +kernel
theorem dX6_rate_142 : decode cX6_rate 142 = .ok (.iload 5, 2) := by decide +kernel
theorem dX6_rate_144 : decode cX6_rate 144 = .ok (.goto 35, 3) := by decide +kernel
theorem dX6_rate_147 : decode cX6_rate 147 = .ok (.iload_n 1, 1) := by decide +kernel
theorem dX6_rate_148 : decode cX6_rate 148 = .ok (.iconst 3, 1) := by decide +kernel
theorem dX6_rate_149 : decode cX6_rate 149 = .ok (.if_icmp .ne 10, 3) := by decide +kernel
theorem dX6_rate_152 : decode cX6_rate 152 = .ok (.iconst 2, 1) := by decide +kernel
theorem dX6_rate_153 : decode cX6_rate 153 = .ok (.iload 4, 2) := by decide +kernel
theorem dX6_rate_155 : decode cX6_rate 155 = .ok (.imul, 1) := by decide +kernel
theorem dX6_rate_156 : decode cX6_rate 156 = .ok (.goto 23, 3) := by decide +kernel
theorem dX6_rate_159 : decode cX6_rate 159 = .ok (.iload_n 1, 1) := by decide +kernel
theorem dX6_rate_160 : decode cX6_rate 160 = .ok (.iconst 4, 1) := by decide +kernel
theorem dX6_rate_161 : decode cX6_rate 161 = .ok (.if_icmp .ne 10, 3) := by decide +kernel
theorem dX6_rate_164 : decode cX6_rate 164 = .ok (.iload 5, 2) := by decide +kernel
theorem dX6_rate_166 : decode cX6_rate 166 = .ok (.iload_n 2, 1) := by decide +kernel
theorem dX6_rate_167 : decode cX6_rate 167 = .ok (.iadd, 1) := by decide +kernel
theorem dX6_rate_168 : decode cX6_rate 168 = .ok (.goto 11, 3) := by decide +kernel
theorem dX6_rate_171 : decode cX6_rate 171 = .ok (.iload_n 3, 1) := by decide +kernel
theorem dX6_rate_172 : decode cX6_rate 172 = .ok (.aload_n 0, 1) := by decide +kernel
theorem dX6_rate_173 : decode cX6_rate 173 = .ok (.getfield 19, 3) := by decide +kernel
theorem dX6_rate_176 : decode cX6_rate 176 = .ok (.iconst 0, 1) := by decide +kernel
theorem dX6_rate_177 : decode cX6_rate 177 = .ok (.iaload, 1) := by decide +kernel
theorem dX6_rate_178 : decode cX6_rate 178 = .ok (.iadd, 1) := by decide +kernel
theorem dX6_rate_179 : decode cX6_rate 179 = .ok (.ireturn, 1) := by decide +kernel
theorem dX6_keep_0 : decode cX6_keep 0 = .ok (.iload_n 1, 1) := by decide +kernel
theorem dX6_keep_1 : decode cX6_keep 1 = .ok (.iconst 0, 1) := by decide +kernel
theorem dX6_keep_2 : decode cX6_keep 2 = .ok (.iconst 1, 1) := by decide +kernel
theorem dX6_keep_3 : decode cX6_keep 3 = .ok (.invokestatic 52, 3) := by decide +kernel
theorem dX6_keep_6 : decode cX6_keep 6 = .ok (.ifCond .ne 5, 3) := by decide +kernel
theorem dX6_keep_9 : decode cX6_keep 9 = .ok (.iconst (-1), 1) := by decide +kernel
theorem dX6_keep_10 : decode cX6_keep 10 = .ok (.ireturn, 1) := by decide +kernel
theorem dX6_keep_11 : decode cX6_keep 11 = .ok (.iconst 0, 1) := by decide +kernel
theorem dX6_keep_12 : decode cX6_keep 12 = .ok (.istore_n 2, 1) := by decide +kernel
theorem dX6_keep_13 : decode cX6_keep 13 = .ok (.iload_n 2, 1) := by decide +kernel
theorem dX6_keep_14 : decode cX6_keep 14 = .ok (.bipush 18, 2) := by decide +kernel
theorem dX6_keep_16 : decode cX6_keep 16 = .ok (.if_icmp .ge 26, 3) := by decide +kernel
theorem dX6_keep_19 : decode cX6_keep 19 = .ok (.aload_n 0, 1) := by decide +kernel
theorem dX6_keep_20 : decode cX6_keep 20 = .ok (.getfield 25, 3) := by decide +kernel
theorem dX6_keep_23 : decode cX6_keep 23 = .ok (.bipush 18, 2) := by decide +kernel
theorem dX6_keep_25 : decode cX6_keep 25 = .ok (.iload_n 1, 1) := by decide +kernel
theorem dX6_keep_26 : decode cX6_keep 26 = .ok (.imul, 1) := by decide +kernel
theorem dX6_keep_27 : decode cX6_keep 27 = .ok (.iload_n 2, 1) := by decide +kernel
theorem dX6_keep_28 : decode cX6_keep 28 = .ok (.iadd, 1) := by decide +kernel
theorem dX6_keep_29 : decode cX6_keep 29 = .ok (.aload_n 0, 1) := by decide +kernel
theorem dX6_keep_30 : decode cX6_keep 30 = .ok (.getfield 19, 3) := by decide +kernel
theorem dX6_keep_33 : decode cX6_keep 33 = .ok (.iload_n 2, 1) := by decide +kernel
theorem dX6_keep_34 : decode cX6_keep 34 = .ok (.iaload, 1) := by decide +kernel
theorem dX6_keep_35 : decode cX6_keep 35 = .ok (.iastore, 1) := by decide +kernel
theorem dX6_keep_36 : decode cX6_keep 36 = .ok (.iinc 2 1, 3) := by decide +kernel
theorem dX6_keep_39 : decode cX6_keep 39 = .ok (.goto (-26), 3) := by decide +kernel
theorem dX6_keep_42 : decode cX6_keep 42 = .ok (.aload_n 0, 1) := by decide +kernel
theorem dX6_keep_43 : decode cX6_keep 43 = .ok (.getfield 28, 3) := by decide +kernel
theorem dX6_keep_46 : decode cX6_keep 46 = .ok (.iload_n 1, 1) := by decide +kernel
theorem dX6_keep_47 : decode cX6_keep 47 = .ok (.iconst 1, 1) := by decide +kernel
theorem dX6_keep_48 : decode cX6_keep 48 = .ok (.bastore, 1) := by decide +kernel
theorem dX6_keep_49 : decode cX6_keep 49 = .ok (.aload_n 0, 1) := by decide +kernel
theorem dX6_keep_50 : decode cX6_keep 50 = .ok (.getfield 19, 3) := by decide +kernel
theorem dX6_keep_53 : decode cX6_keep 53 = .ok (.iconst 0, 1) := by decide +kernel
theorem dX6_keep_54 : decode cX6_keep 54 = .ok (.iaload, 1) := by decide +kernel
theorem dX6_keep_55 : decode cX6_keep 55 = .ok (.ireturn, 1) := by decide +kernel
theorem dX6_back_0 : decode cX6_back 0 = .ok (.iload_n 1, 1) := by decide +kernel
theorem dX6_back_1 : decode cX6_back 1 = .ok (.iconst 0, 1) := by decide +kernel
theorem dX6_back_2 : decode cX6_back 2 = .ok (.iconst 1, 1) := by decide +kernel
theorem dX6_back_3 : decode cX6_back 3 = .ok (.invokestatic 52, 3) := by decide +kernel
theorem dX6_back_6 : decode cX6_back 6 = .ok (.ifCond .ne 5, 3) := by decide +kernel
theorem dX6_back_9 : decode cX6_back 9 = .ok (.iconst (-1), 1) := by decide +kernel
theorem dX6_back_10 : decode cX6_back 10 = .ok (.ireturn, 1) := by decide +kernel
theorem dX6_back_11 : decode cX6_back 11 = .ok (.aload_n 0, 1) := by decide +kernel
theorem dX6_back_12 : decode cX6_back 12 = .ok (.getfield 28, 3) := by decide +kernel
theorem dX6_back_15 : decode cX6_back 15 = .ok (.iload_n 1, 1) := by decide +kernel
theorem dX6_back_16 : decode cX6_back 16 = .ok (.baload, 1) := by decide +kernel
theorem dX6_back_17 : decode cX6_back 17 = .ok (.ifCond .ne 6, 3) := by decide +kernel
theorem dX6_back_20 : decode cX6_back 20 = .ok (.bipush (-2), 2) := by decide +kernel
theorem dX6_back_22 : decode cX6_back 22 = .ok (.ireturn, 1) := by decide +kernel
theorem dX6_back_23 : decode cX6_back 23 = .ok (.iconst 0, 1) := by decide +kernel
theorem dX6_back_24 : decode cX6_back 24 = .ok (.istore_n 2, 1) := by decide +kernel
theorem dX6_back_25 : decode cX6_back 25 = .ok (.iload_n 2, 1) := by decide +kernel
theorem dX6_back_26 : decode cX6_back 26 = .ok (.bipush 18, 2) := by decide +kernel
theorem dX6_back_28 : decode cX6_back 28 = .ok (.if_icmp .ge 26, 3) := by decide +kernel
theorem dX6_back_31 : decode cX6_back 31 = .ok (.aload_n 0, 1) := by decide +kernel
theorem dX6_back_32 : decode cX6_back 32 = .ok (.getfield 19, 3) := by decide +kernel
theorem dX6_back_35 : decode cX6_back 35 = .ok (.iload_n 2, 1) := by decide +kernel
theorem dX6_back_36 : decode cX6_back 36 = .ok (.aload_n 0, 1) := by decide +kernel
theorem dX6_back_37 : decode cX6_back 37 = .ok (.getfield 25, 3) := by decide +kernel
theorem dX6_back_40 : decode cX6_back 40 = .ok (.bipush 18, 2) := by decide +kernel
theorem dX6_back_42 : decode cX6_back 42 = .ok (.iload_n 1, 1) := by decide +kernel
theorem dX6_back_43 : decode cX6_back 43 = .ok (.imul, 1) := by decide +kernel
theorem dX6_back_44 : decode cX6_back 44 = .ok (.iload_n 2, 1) := by decide +kernel
theorem dX6_back_45 : decode cX6_back 45 = .ok (.iadd, 1) := by decide +kernel
theorem dX6_back_46 : decode cX6_back 46 = .ok (.iaload, 1) := by decide +kernel
theorem dX6_back_47 : decode cX6_back 47 = .ok (.iastore, 1) := by decide +kernel
theorem dX6_back_48 : decode cX6_back 48 = .ok (.iinc 2 1, 3) := by decide +kernel
