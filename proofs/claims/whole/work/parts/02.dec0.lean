theorem dX0_init_0 : decode cX0_init 0 = .ok (.aload_n 0, 1) := by decide +kernel
theorem dX0_init_1 : decode cX0_init 1 = .ok (.invokespecial 3, 3) := by decide +kernel
theorem dX0_init_4 : decode cX0_init 4 = .ok (.aload_n 0, 1) := by decide +kernel
theorem dX0_init_5 : decode cX0_init 5 = .ok (.bipush 7, 2) := by decide +kernel
theorem dX0_init_7 : decode cX0_init 7 = .ok (.newarray .int, 2) := by decide +kernel
theorem dX0_init_9 : decode cX0_init 9 = .ok (.putfield 9, 3) := by decide +kernel
theorem dX0_init_12 : decode cX0_init 12 = .ok (.aload_n 0, 1) := by decide +kernel
theorem dX0_init_13 : decode cX0_init 13 = .ok (.bipush 7, 2) := by decide +kernel
theorem dX0_init_15 : decode cX0_init 15 = .ok (.newarray .int, 2) := by decide +kernel
theorem dX0_init_17 : decode cX0_init 17 = .ok (.putfield 15, 3) := by decide +kernel
theorem dX0_init_20 : decode cX0_init 20 = .ok (.aload_n 0, 1) := by decide +kernel
theorem dX0_init_21 : decode cX0_init 21 = .ok (.bipush 7, 2) := by decide +kernel
theorem dX0_init_23 : decode cX0_init 23 = .ok (.newarray .int, 2) := by decide +kernel
theorem dX0_init_25 : decode cX0_init 25 = .ok (.putfield 18, 3) := by decide +kernel
theorem dX0_init_28 : decode cX0_init 28 = .ok (.aload_n 0, 1) := by decide +kernel
theorem dX0_init_29 : decode cX0_init 29 = .ok (.iconst 3, 1) := by decide +kernel
theorem dX0_init_30 : decode cX0_init 30 = .ok (.putfield 21, 3) := by decide +kernel
theorem dX0_init_33 : decode cX0_init 33 = .ok (.aload_n 0, 1) := by decide +kernel
theorem dX0_init_34 : decode cX0_init 34 = .ok (.bipush 8, 2) := by decide +kernel
theorem dX0_init_36 : decode cX0_init 36 = .ok (.putfield 25, 3) := by decide +kernel
theorem dX0_init_39 : decode cX0_init 39 = .ok (.return_, 1) := by decide +kernel
theorem dX0_restart_0 : decode cX0_restart 0 = .ok (.aload_n 0, 1) := by decide +kernel
theorem dX0_restart_1 : decode cX0_restart 1 = .ok (.iconst 0, 1) := by decide +kernel
theorem dX0_restart_2 : decode cX0_restart 2 = .ok (.putfield 28, 3) := by decide +kernel
theorem dX0_restart_5 : decode cX0_restart 5 = .ok (.aload_n 0, 1) := by decide +kernel
theorem dX0_restart_6 : decode cX0_restart 6 = .ok (.iconst 3, 1) := by decide +kernel
theorem dX0_restart_7 : decode cX0_restart 7 = .ok (.putfield 21, 3) := by decide +kernel
theorem dX0_restart_10 : decode cX0_restart 10 = .ok (.aload_n 0, 1) := by decide +kernel
theorem dX0_restart_11 : decode cX0_restart 11 = .ok (.bipush 8, 2) := by decide +kernel
theorem dX0_restart_13 : decode cX0_restart 13 = .ok (.putfield 25, 3) := by decide +kernel
theorem dX0_restart_16 : decode cX0_restart 16 = .ok (.return_, 1) := by decide +kernel
theorem dX0_enlist_0 : decode cX0_enlist 0 = .ok (.aload_n 0, 1) := by decide +kernel
theorem dX0_enlist_1 : decode cX0_enlist 1 = .ok (.getfield 9, 3) := by decide +kernel
theorem dX0_enlist_4 : decode cX0_enlist 4 = .ok (.aload_n 0, 1) := by decide +kernel
theorem dX0_enlist_5 : decode cX0_enlist 5 = .ok (.getfield 28, 3) := by decide +kernel
theorem dX0_enlist_8 : decode cX0_enlist 8 = .ok (.iload_n 1, 1) := by decide +kernel
theorem dX0_enlist_9 : decode cX0_enlist 9 = .ok (.invokestatic 31, 3) := by decide +kernel
theorem dX0_enlist_12 : decode cX0_enlist 12 = .ok (.aload_n 0, 1) := by decide +kernel
theorem dX0_enlist_13 : decode cX0_enlist 13 = .ok (.getfield 15, 3) := by decide +kernel
theorem dX0_enlist_16 : decode cX0_enlist 16 = .ok (.aload_n 0, 1) := by decide +kernel
theorem dX0_enlist_17 : decode cX0_enlist 17 = .ok (.getfield 28, 3) := by decide +kernel
theorem dX0_enlist_20 : decode cX0_enlist 20 = .ok (.iload_n 2, 1) := by decide +kernel
theorem dX0_enlist_21 : decode cX0_enlist 21 = .ok (.invokestatic 31, 3) := by decide +kernel
theorem dX0_enlist_24 : decode cX0_enlist 24 = .ok (.aload_n 0, 1) := by decide +kernel
theorem dX0_enlist_25 : decode cX0_enlist 25 = .ok (.getfield 18, 3) := by decide +kernel
theorem dX0_enlist_28 : decode cX0_enlist 28 = .ok (.aload_n 0, 1) := by decide +kernel
theorem dX0_enlist_29 : decode cX0_enlist 29 = .ok (.getfield 28, 3) := by decide +kernel
theorem dX0_enlist_32 : decode cX0_enlist 32 = .ok (.iload_n 3, 1) := by decide +kernel
theorem dX0_enlist_33 : decode cX0_enlist 33 = .ok (.invokestatic 31, 3) := by decide +kernel
theorem dX0_enlist_36 : decode cX0_enlist 36 = .ok (.aload_n 0, 1) := by decide +kernel
theorem dX0_enlist_37 : decode cX0_enlist 37 = .ok (.dup, 1) := by decide +kernel
theorem dX0_enlist_38 : decode cX0_enlist 38 = .ok (.getfield 28, 3) := by decide +kernel
theorem dX0_enlist_41 : decode cX0_enlist 41 = .ok (.iconst 1, 1) := by decide +kernel
theorem dX0_enlist_42 : decode cX0_enlist 42 = .ok (.iadd, 1) := by decide +kernel
theorem dX0_enlist_43 : decode cX0_enlist 43 = .ok (.putfield 28, 3) := by decide +kernel
theorem dX0_enlist_46 : decode cX0_enlist 46 = .ok (.return_, 1) := by decide +kernel
theorem dX0_become_0 : decode cX0_become 0 = .ok (.aload_n 0, 1) := by decide +kernel
theorem dX0_become_1 : decode cX0_become 1 = .ok (.invokevirtual 35, 3) := by decide +kernel
theorem dX0_become_4 : decode cX0_become 4 = .ok (.iconst 0, 1) := by decide +kernel
theorem dX0_become_5 : decode cX0_become 5 = .ok (.istore_n 2, 1) := by decide +kernel
theorem dX0_become_6 : decode cX0_become 6 = .ok (.iload_n 2, 1) := by decide +kernel
theorem dX0_become_7 : decode cX0_become 7 = .ok (.aload_n 1, 1) := by decide +kernel
theorem dX0_become_8 : decode cX0_become 8 = .ok (.getfield 28, 3) := by decide +kernel
theorem dX0_become_11 : decode cX0_become 11 = .ok (.if_icmp .ge 37, 3) := by decide +kernel
theorem dX0_become_14 : decode cX0_become 14 = .ok (.aload_n 0, 1) := by decide +kernel
theorem dX0_become_15 : decode cX0_become 15 = .ok (.aload_n 1, 1) := by decide +kernel
theorem dX0_become_16 : decode cX0_become 16 = .ok (.getfield 9, 3) := by decide +kernel
theorem dX0_become_19 : decode cX0_become 19 = .ok (.iload_n 2, 1) := by decide +kernel
theorem dX0_become_20 : decode cX0_become 20 = .ok (.invokestatic 38, 3) := by decide +kernel
theorem dX0_become_23 : decode cX0_become 23 = .ok (.aload_n 1, 1) := by decide +kernel
theorem dX0_become_24 : decode cX0_become 24 = .ok (.getfield 15, 3) := by decide +kernel
theorem dX0_become_27 : decode cX0_become 27 = .ok (.iload_n 2, 1) := by decide +kernel
theorem dX0_become_28 : decode cX0_become 28 = .ok (.invokestatic 38, 3) := by decide +kernel
theorem dX0_become_31 : decode cX0_become 31 = .ok (.aload_n 1, 1) := by decide +kernel
theorem dX0_become_32 : decode cX0_become 32 = .ok (.getfield 18, 3) := by decide +kernel
theorem dX0_become_35 : decode cX0_become 35 = .ok (.iload_n 2, 1) := by decide +kernel
theorem dX0_become_36 : decode cX0_become 36 = .ok (.invokestatic 38, 3) := by decide +kernel
theorem dX0_become_39 : decode cX0_become 39 = .ok (.invokevirtual 42, 3) := by decide +kernel
theorem dX0_become_42 : decode cX0_become 42 = .ok (.iinc 2 1, 3) := by decide +kernel
theorem dX0_become_45 : decode cX0_become 45 = .ok (.goto (-39), 3) := by decide +kernel
theorem dX0_become_48 : decode cX0_become 48 = .ok (.aload_n 0, 1) := by decide +kernel
theorem dX0_become_49 : decode cX0_become 49 = .ok (.aload_n 1, 1) := by decide +kernel
theorem dX0_become_50 : decode cX0_become 50 = .ok (.getfield 21, 3) := by decide +kernel
theorem dX0_become_53 : decode cX0_become 53 = .ok (.putfield 21, 3) := by decide +kernel
theorem dX0_become_56 : decode cX0_become 56 = .ok (.aload_n 0, 1) := by decide +kernel
theorem dX0_become_57 : decode cX0_become 57 = .ok (.aload_n 1, 1) := by decide +kernel
theorem dX0_become_58 : decode cX0_become 58 = .ok (.getfield 25, 3) := by decide +kernel
theorem dX0_become_61 : decode cX0_become 61 = .ok (.putfield 25, 3) := by decide +kernel
theorem dX0_become_64 : decode cX0_become 64 = .ok (.return_, 1) := by decide +kernel
theorem dX0_all_0 : decode cX0_all 0 = .ok (.iconst 1, 1) := by decide +kernel
theorem dX0_all_1 : decode cX0_all 1 = .ok (.aload_n 0, 1) := by decide +kernel
theorem dX0_all_2 : decode cX0_all 2 = .ok (.getfield 28, 3) := by decide +kernel
theorem dX0_all_5 : decode cX0_all 5 = .ok (.ishl, 1) := by decide +kernel
theorem dX0_all_6 : decode cX0_all 6 = .ok (.iconst 1, 1) := by decide +kernel
theorem dX0_all_7 : decode cX0_all 7 = .ok (.isub, 1) := by decide +kernel
theorem dX0_all_8 : decode cX0_all 8 = .ok (.ireturn, 1) := by decide +kernel
theorem dX0_trusted_0 : decode cX0_trusted 0 = .ok (.aload_n 0, 1) := by decide +kernel
theorem dX0_trusted_1 : decode cX0_trusted 1 = .ok (.getfield 18, 3) := by decide +kernel
theorem dX0_trusted_4 : decode cX0_trusted 4 = .ok (.iload_n 1, 1) := by decide +kernel
theorem dX0_trusted_5 : decode cX0_trusted 5 = .ok (.invokestatic 38, 3) := by decide +kernel
theorem dX0_trusted_8 : decode cX0_trusted 8 = .ok (.aload_n 0, 1) := by decide +kernel
theorem dX0_trusted_9 : decode cX0_trusted 9 = .ok (.invokevirtual 46, 3) := by decide +kernel
theorem dX0_trusted_12 : decode cX0_trusted 12 = .ok (.iand, 1) := by decide +kernel
theorem dX0_trusted_13 : decode cX0_trusted 13 = .ok (.iconst 1, 1) := by decide +kernel
theorem dX0_trusted_14 : decode cX0_trusted 14 = .ok (.iload_n 1, 1) := by decide +kernel
theorem dX0_trusted_15 : decode cX0_trusted 15 = .ok (.ishl, 1) := by decide +kernel
theorem dX0_trusted_16 : decode cX0_trusted 16 = .ok (.iconst (-1), 1) := by decide +kernel
theorem dX0_trusted_17 : decode cX0_trusted 17 = .ok (.ixor, 1) := by decide +kernel
theorem dX0_trusted_18 : decode cX0_trusted 18 = .ok (.iand, 1) := by decide +kernel
theorem dX0_trusted_19 : decode cX0_trusted 19 = .ok (.ireturn, 1) := by decide +kernel
theorem dX0_isOnDeck_0 : decode cX0_isOnDeck 0 = .ok (.iload_n 2, 1) := by decide +kernel
theorem dX0_isOnDeck_1 : decode cX0_isOnDeck 1 = .ok (.iconst 3, 1) := by decide +kernel
theorem dX0_isOnDeck_2 : decode cX0_isOnDeck 2 = .ok (.irem, 1) := by decide +kernel
theorem dX0_isOnDeck_3 : decode cX0_isOnDeck 3 = .ok (.aload_n 0, 1) := by decide +kernel
theorem dX0_isOnDeck_4 : decode cX0_isOnDeck 4 = .ok (.getfield 9, 3) := by decide +kernel
theorem dX0_isOnDeck_7 : decode cX0_isOnDeck 7 = .ok (.iload_n 1, 1) := by decide +kernel
theorem dX0_isOnDeck_8 : decode cX0_isOnDeck 8 = .ok (.invokestatic 38, 3) := by decide +kernel
theorem dX0_isOnDeck_11 : decode cX0_isOnDeck 11 = .ok (.if_icmp .ne 7, 3) := by decide +kernel
theorem dX0_isOnDeck_14 : decode cX0_isOnDeck 14 = .ok (.iconst 1, 1) := by decide +kernel
theorem dX0_isOnDeck_15 : decode cX0_isOnDeck 15 = .ok (.goto 4, 3) := by decide +kernel
theorem dX0_isOnDeck_18 : decode cX0_isOnDeck 18 = .ok (.iconst 0, 1) := by decide +kernel
theorem dX0_isOnDeck_19 : decode cX0_isOnDeck 19 = .ok (.ireturn, 1) := by decide +kernel
theorem dX0_dares_0 : decode cX0_dares 0 = .ok (.aload_n 0, 1) := by decide +kernel
theorem dX0_dares_1 : decode cX0_dares 1 = .ok (.getfield 15, 3) := by decide +kernel
theorem dX0_dares_4 : decode cX0_dares 4 = .ok (.iload_n 1, 1) := by decide +kernel
theorem dX0_dares_5 : decode cX0_dares 5 = .ok (.invokestatic 38, 3) := by decide +kernel
theorem dX0_dares_8 : decode cX0_dares 8 = .ok (.istore_n 3, 1) := by decide +kernel
theorem dX0_dares_9 : decode cX0_dares 9 = .ok (.iload_n 2, 1) := by decide +kernel
theorem dX0_dares_10 : decode cX0_dares 10 = .ok (.invokestatic 50, 3) := by decide +kernel
theorem dX0_dares_13 : decode cX0_dares 13 = .ok (.iload_n 3, 1) := by decide +kernel
theorem dX0_dares_14 : decode cX0_dares 14 = .ok (.if_icmp .lt 21, 3) := by decide +kernel
theorem dX0_dares_17 : decode cX0_dares 17 = .ok (.iload_n 3, 1) := by decide +kernel
theorem dX0_dares_18 : decode cX0_dares 18 = .ok (.ifCond .eq 13, 3) := by decide +kernel
theorem dX0_dares_21 : decode cX0_dares 21 = .ok (.aload_n 0, 1) := by decide +kernel
theorem dX0_dares_22 : decode cX0_dares 22 = .ok (.iload_n 1, 1) := by decide +kernel
theorem dX0_dares_23 : decode cX0_dares 23 = .ok (.invokevirtual 56, 3) := by decide +kernel
theorem dX0_dares_26 : decode cX0_dares 26 = .ok (.iload_n 2, 1) := by decide +kernel
theorem dX0_dares_27 : decode cX0_dares 27 = .ok (.iand, 1) := by decide +kernel
theorem dX0_dares_28 : decode cX0_dares 28 = .ok (.ifCond .eq 7, 3) := by decide +kernel
theorem dX0_dares_31 : decode cX0_dares 31 = .ok (.iconst 1, 1) := by decide +kernel
theorem dX0_dares_32 : decode cX0_dares 32 = .ok (.goto 4, 3) := by decide +kernel
theorem dX0_dares_35 : decode cX0_dares 35 = .ok (.iconst 0, 1) := by decide +kernel
theorem dX0_dares_36 : decode cX0_dares 36 = .ok (.ireturn, 1) := by decide +kernel
theorem dX0_inkBehind_0 : decode cX0_inkBehind 0 = .ok (.aload_n 0, 1) := by decide +kernel
theorem dX0_inkBehind_1 : decode cX0_inkBehind 1 = .ok (.getfield 21, 3) := by decide +kernel
theorem dX0_inkBehind_4 : decode cX0_inkBehind 4 = .ok (.ifCond .le 17, 3) := by decide +kernel
theorem dX0_inkBehind_7 : decode cX0_inkBehind 7 = .ok (.aload_n 0, 1) := by decide +kernel
theorem dX0_inkBehind_8 : decode cX0_inkBehind 8 = .ok (.getfield 21, 3) := by decide +kernel
theorem dX0_inkBehind_11 : decode cX0_inkBehind 11 = .ok (.iload_n 1, 1) := by decide +kernel
theorem dX0_inkBehind_12 : decode cX0_inkBehind 12 = .ok (.aload_n 0, 1) := by decide +kernel
theorem dX0_inkBehind_13 : decode cX0_inkBehind 13 = .ok (.getfield 21, 3) := by decide +kernel
theorem dX0_inkBehind_16 : decode cX0_inkBehind 16 = .ok (.irem, 1) := by decide +kernel
theorem dX0_inkBehind_17 : decode cX0_inkBehind 17 = .ok (.isub, 1) := by decide +kernel
theorem dX0_inkBehind_18 : decode cX0_inkBehind 18 = .ok (.goto 4, 3) := by decide +kernel
theorem dX0_inkBehind_21 : decode cX0_inkBehind 21 = .ok (.iconst 0, 1) := by decide +kernel
theorem dX0_inkBehind_22 : decode cX0_inkBehind 22 = .ok (.ireturn, 1) := by decide +kernel
theorem dX0_signedInTheEnd_0 : decode cX0_signedInTheEnd 0 = .ok (.iload_n 1, 1) := by decide +kernel
theorem dX0_signedInTheEnd_1 : decode cX0_signedInTheEnd 1 = .ok (.istore_n 2, 1) := by decide +kernel
theorem dX0_signedInTheEnd_2 : decode cX0_signedInTheEnd 2 = .ok (.iconst 0, 1) := by decide +kernel
theorem dX0_signedInTheEnd_3 : decode cX0_signedInTheEnd 3 = .ok (.istore_n 3, 1) := by decide +kernel
theorem dX0_signedInTheEnd_4 : decode cX0_signedInTheEnd 4 = .ok (.iload_n 3, 1) := by decide +kernel
theorem dX0_signedInTheEnd_5 : decode cX0_signedInTheEnd 5 = .ok (.bipush 7, 2) := by decide +kernel
theorem dX0_signedInTheEnd_7 : decode cX0_signedInTheEnd 7 = .ok (.if_icmp .ge 44, 3) := by decide +kernel
theorem dX0_signedInTheEnd_10 : decode cX0_signedInTheEnd 10 = .ok (.iconst 0, 1) := by decide +kernel
theorem dX0_signedInTheEnd_11 : decode cX0_signedInTheEnd 11 = .ok (.istore 4, 2) := by decide +kernel
theorem dX0_signedInTheEnd_13 : decode cX0_signedInTheEnd 13 = .ok (.iload 4, 2) := by decide +kernel
theorem dX0_signedInTheEnd_15 : decode cX0_signedInTheEnd 15 = .ok (.aload_n 0, 1) := by decide +kernel
theorem dX0_signedInTheEnd_16 : decode cX0_signedInTheEnd 16 = .ok (.getfield 28, 3) := by decide +kernel
theorem dX0_signedInTheEnd_19 : decode cX0_signedInTheEnd 19 = .ok (.if_icmp .ge 26, 3) := by decide +kernel
theorem dX0_signedInTheEnd_22 : decode cX0_signedInTheEnd 22 = .ok (.aload_n 0, 1) := by decide +kernel
theorem dX0_signedInTheEnd_23 : decode cX0_signedInTheEnd 23 = .ok (.iload 4, 2) := by decide +kernel
theorem dX0_signedInTheEnd_25 : decode cX0_signedInTheEnd 25 = .ok (.iload_n 2, 1) := by decide +kernel
theorem dX0_signedInTheEnd_26 : decode cX0_signedInTheEnd 26 = .ok (.invokevirtual 59, 3) := by decide +kernel
theorem dX0_signedInTheEnd_29 : decode cX0_signedInTheEnd 29 = .ok (.ifCond .eq 10, 3) := by decide +kernel
theorem dX0_signedInTheEnd_32 : decode cX0_signedInTheEnd 32 = .ok (.iload_n 2, 1) := by decide +kernel
theorem dX0_signedInTheEnd_33 : decode cX0_signedInTheEnd 33 = .ok (.iconst 1, 1) := by decide +kernel
theorem dX0_signedInTheEnd_34 : decode cX0_signedInTheEnd 34 = .ok (.iload 4, 2) := by decide +kernel
theorem dX0_signedInTheEnd_36 : decode cX0_signedInTheEnd 36 = .ok (.ishl, 1) := by decide +kernel
theorem dX0_signedInTheEnd_37 : decode cX0_signedInTheEnd 37 = .ok (.ior, 1) := by decide +kernel
theorem dX0_signedInTheEnd_38 : decode cX0_signedInTheEnd 38 = .ok (.istore_n 2, 1) := by decide +kernel
theorem dX0_signedInTheEnd_39 : decode cX0_signedInTheEnd 39 = .ok (.iinc 4 1, 3) := by decide +kernel
theorem dX0_signedInTheEnd_42 : decode cX0_signedInTheEnd 42 = .ok (.goto (-29), 3) := by decide +kernel
theorem dX0_signedInTheEnd_45 : decode cX0_signedInTheEnd 45 = .ok (.iinc 3 1, 3) := by decide +kernel
theorem dX0_signedInTheEnd_48 : decode cX0_signedInTheEnd 48 = .ok (.goto (-44), 3) := by decide +kernel
theorem dX0_signedInTheEnd_51 : decode cX0_signedInTheEnd 51 = .ok (.iload_n 2, 1) := by decide +kernel
theorem dX0_signedInTheEnd_52 : decode cX0_signedInTheEnd 52 = .ok (.ireturn, 1) := by decide +kernel
theorem dX0_largestClique_0 : decode cX0_largestClique 0 = .ok (.iconst 0, 1) := by decide +kernel
theorem dX0_largestClique_1 : decode cX0_largestClique 1 = .ok (.istore_n 1, 1) := by decide +kernel
theorem dX0_largestClique_2 : decode cX0_largestClique 2 = .ok (.iconst 0, 1) := by decide +kernel
theorem dX0_largestClique_3 : decode cX0_largestClique 3 = .ok (.istore_n 2, 1) := by decide +kernel
theorem dX0_largestClique_4 : decode cX0_largestClique 4 = .ok (.iload_n 2, 1) := by decide +kernel
theorem dX0_largestClique_5 : decode cX0_largestClique 5 = .ok (.aload_n 0, 1) := by decide +kernel
theorem dX0_largestClique_6 : decode cX0_largestClique 6 = .ok (.invokevirtual 46, 3) := by decide +kernel
theorem dX0_largestClique_9 : decode cX0_largestClique 9 = .ok (.if_icmp .gt 30, 3) := by decide +kernel
theorem dX0_largestClique_12 : decode cX0_largestClique 12 = .ok (.iload_n 2, 1) := by decide +kernel
theorem dX0_largestClique_13 : decode cX0_largestClique 13 = .ok (.invokestatic 50, 3) := by decide +kernel
theorem dX0_largestClique_16 : decode cX0_largestClique 16 = .ok (.iload_n 1, 1) := by decide +kernel
theorem dX0_largestClique_17 : decode cX0_largestClique 17 = .ok (.invokestatic 50, 3) := by decide +kernel
theorem dX0_largestClique_20 : decode cX0_largestClique 20 = .ok (.if_icmp .le 13, 3) := by decide +kernel
theorem dX0_largestClique_23 : decode cX0_largestClique 23 = .ok (.aload_n 0, 1) := by decide +kernel
theorem dX0_largestClique_24 : decode cX0_largestClique 24 = .ok (.iload_n 2, 1) := by decide +kernel
theorem dX0_largestClique_25 : decode cX0_largestClique 25 = .ok (.invokevirtual 63, 3) := by decide +kernel
theorem dX0_largestClique_28 : decode cX0_largestClique 28 = .ok (.ifCond .eq 5, 3) := by decide +kernel
theorem dX0_largestClique_31 : decode cX0_largestClique 31 = .ok (.iload_n 2, 1) := by decide +kernel
theorem dX0_largestClique_32 : decode cX0_largestClique 32 = .ok (.istore_n 1, 1) := by decide +kernel
theorem dX0_largestClique_33 : decode cX0_largestClique 33 = .ok (.iinc 2 1, 3) := by decide +kernel
theorem dX0_largestClique_36 : decode cX0_largestClique 36 = .ok (.goto (-32), 3) := by decide +kernel
theorem dX0_largestClique_39 : decode cX0_largestClique 39 = .ok (.iload_n 1, 1) := by decide +kernel
theorem dX0_largestClique_40 : decode cX0_largestClique 40 = .ok (.ireturn, 1) := by decide +kernel
theorem dX0_isClique_0 : decode cX0_isClique 0 = .ok (.iconst 0, 1) := by decide +kernel
theorem dX0_isClique_1 : decode cX0_isClique 1 = .ok (.istore_n 2, 1) := by decide +kernel
theorem dX0_isClique_2 : decode cX0_isClique 2 = .ok (.iload_n 2, 1) := by decide +kernel
theorem dX0_isClique_3 : decode cX0_isClique 3 = .ok (.aload_n 0, 1) := by decide +kernel
theorem dX0_isClique_4 : decode cX0_isClique 4 = .ok (.getfield 28, 3) := by decide +kernel
theorem dX0_isClique_7 : decode cX0_isClique 7 = .ok (.if_icmp .ge 37, 3) := by decide +kernel
theorem dX0_isClique_10 : decode cX0_isClique 10 = .ok (.iload_n 1, 1) := by decide +kernel
theorem dX0_isClique_11 : decode cX0_isClique 11 = .ok (.iload_n 2, 1) := by decide +kernel
theorem dX0_isClique_12 : decode cX0_isClique 12 = .ok (.invokestatic 67, 3) := by decide +kernel
theorem dX0_isClique_15 : decode cX0_isClique 15 = .ok (.ifCond .eq 23, 3) := by decide +kernel
theorem dX0_isClique_18 : decode cX0_isClique 18 = .ok (.iload_n 1, 1) := by decide +kernel
theorem dX0_isClique_19 : decode cX0_isClique 19 = .ok (.iconst 1, 1) := by decide +kernel
theorem dX0_isClique_20 : decode cX0_isClique 20 = .ok (.iload_n 2, 1) := by decide +kernel
theorem dX0_isClique_21 : decode cX0_isClique 21 = .ok (.ishl, 1) := by decide +kernel
theorem dX0_isClique_22 : decode cX0_isClique 22 = .ok (.iconst (-1), 1) := by decide +kernel
theorem dX0_isClique_23 : decode cX0_isClique 23 = .ok (.ixor, 1) := by decide +kernel
theorem dX0_isClique_24 : decode cX0_isClique 24 = .ok (.iand, 1) := by decide +kernel
theorem dX0_isClique_25 : decode cX0_isClique 25 = .ok (.aload_n 0, 1) := by decide +kernel
theorem dX0_isClique_26 : decode cX0_isClique 26 = .ok (.iload_n 2, 1) := by decide +kernel
theorem dX0_isClique_27 : decode cX0_isClique 27 = .ok (.invokevirtual 56, 3) := by decide +kernel
theorem dX0_isClique_30 : decode cX0_isClique 30 = .ok (.iconst (-1), 1) := by decide +kernel
theorem dX0_isClique_31 : decode cX0_isClique 31 = .ok (.ixor, 1) := by decide +kernel
theorem dX0_isClique_32 : decode cX0_isClique 32 = .ok (.iand, 1) := by decide +kernel
theorem dX0_isClique_33 : decode cX0_isClique 33 = .ok (.ifCond .eq 5, 3) := by decide +kernel
theorem dX0_isClique_36 : decode cX0_isClique 36 = .ok (.iconst 0, 1) := by decide +kernel
theorem dX0_isClique_37 : decode cX0_isClique 37 = .ok (.ireturn, 1) := by decide +kernel
theorem dX0_isClique_38 : decode cX0_isClique 38 = .ok (.iinc 2 1, 3) := by decide +kernel
theorem dX0_isClique_41 : decode cX0_isClique 41 = .ok (.goto (-39), 3) := by decide +kernel
theorem dX0_isClique_44 : decode cX0_isClique 44 = .ok (.iconst 1, 1) := by decide +kernel
theorem dX0_isClique_45 : decode cX0_isClique 45 = .ok (.ireturn, 1) := by decide +kernel
theorem dX1_init_0 : decode cX1_init 0 = .ok (.aload_n 0, 1) := by decide +kernel
theorem dX1_init_1 : decode cX1_init 1 = .ok (.invokespecial 3, 3) := by decide +kernel
theorem dX1_init_4 : decode cX1_init 4 = .ok (.aload_n 0, 1) := by decide +kernel
theorem dX1_init_5 : decode cX1_init 5 = .ok (.bipush 8, 2) := by decide +kernel
theorem dX1_init_7 : decode cX1_init 7 = .ok (.newarray .int, 2) := by decide +kernel
theorem dX1_init_9 : decode cX1_init 9 = .ok (.putfield 9, 3) := by decide +kernel
theorem dX1_init_12 : decode cX1_init 12 = .ok (.aload_n 0, 1) := by decide +kernel
theorem dX1_init_13 : decode cX1_init 13 = .ok (.bipush 8, 2) := by decide +kernel
theorem dX1_init_15 : decode cX1_init 15 = .ok (.newarray .int, 2) := by decide +kernel
theorem dX1_init_17 : decode cX1_init 17 = .ok (.putfield 15, 3) := by decide +kernel
theorem dX1_init_20 : decode cX1_init 20 = .ok (.aload_n 0, 1) := by decide +kernel
theorem dX1_init_21 : decode cX1_init 21 = .ok (.getfield 9, 3) := by decide +kernel
theorem dX1_init_24 : decode cX1_init 24 = .ok (.bipush (-9), 2) := by decide +kernel
theorem dX1_init_26 : decode cX1_init 26 = .ok (.invokestatic 18, 3) := by decide +kernel
theorem dX1_init_29 : decode cX1_init 29 = .ok (.return_, 1) := by decide +kernel
theorem dX1_restart_0 : decode cX1_restart 0 = .ok (.aload_n 0, 1) := by decide +kernel
theorem dX1_restart_1 : decode cX1_restart 1 = .ok (.getfield 9, 3) := by decide +kernel
theorem dX1_restart_4 : decode cX1_restart 4 = .ok (.bipush (-9), 2) := by decide +kernel
theorem dX1_restart_6 : decode cX1_restart 6 = .ok (.invokestatic 18, 3) := by decide +kernel
theorem dX1_restart_9 : decode cX1_restart 9 = .ok (.aload_n 0, 1) := by decide +kernel
theorem dX1_restart_10 : decode cX1_restart 10 = .ok (.getfield 15, 3) := by decide +kernel
theorem dX1_restart_13 : decode cX1_restart 13 = .ok (.iconst 0, 1) := by decide +kernel
theorem dX1_restart_14 : decode cX1_restart 14 = .ok (.invokestatic 18, 3) := by decide +kernel
theorem dX1_restart_17 : decode cX1_restart 17 = .ok (.aload_n 0, 1) := by decide +kernel
theorem dX1_restart_18 : decode cX1_restart 18 = .ok (.iconst 0, 1) := by decide +kernel
theorem dX1_restart_19 : decode cX1_restart 19 = .ok (.putfield 24, 3) := by decide +kernel
theorem dX1_restart_22 : decode cX1_restart 22 = .ok (.aload_n 0, 1) := by decide +kernel
theorem dX1_restart_23 : decode cX1_restart 23 = .ok (.iconst 0, 1) := by decide +kernel
theorem dX1_restart_24 : decode cX1_restart 24 = .ok (.putfield 28, 3) := by decide +kernel
theorem dX1_restart_27 : decode cX1_restart 27 = .ok (.return_, 1) := by decide +kernel
theorem dX1_become_0 : decode cX1_become 0 = .ok (.iconst 0, 1) := by decide +kernel
theorem dX1_become_1 : decode cX1_become 1 = .ok (.istore_n 2, 1) := by decide +kernel
theorem dX1_become_2 : decode cX1_become 2 = .ok (.iload_n 2, 1) := by decide +kernel
theorem dX1_become_3 : decode cX1_become 3 = .ok (.bipush 8, 2) := by decide +kernel
theorem dX1_become_5 : decode cX1_become 5 = .ok (.if_icmp .ge 30, 3) := by decide +kernel
theorem dX1_become_8 : decode cX1_become 8 = .ok (.aload_n 0, 1) := by decide +kernel
theorem dX1_become_9 : decode cX1_become 9 = .ok (.iload_n 2, 1) := by decide +kernel
theorem dX1_become_10 : decode cX1_become 10 = .ok (.aload_n 1, 1) := by decide +kernel
theorem dX1_become_11 : decode cX1_become 11 = .ok (.getfield 9, 3) := by decide +kernel
theorem dX1_become_14 : decode cX1_become 14 = .ok (.iload_n 2, 1) := by decide +kernel
theorem dX1_become_15 : decode cX1_become 15 = .ok (.invokestatic 31, 3) := by decide +kernel
theorem dX1_become_18 : decode cX1_become 18 = .ok (.aload_n 1, 1) := by decide +kernel
theorem dX1_become_19 : decode cX1_become 19 = .ok (.getfield 15, 3) := by decide +kernel
theorem dX1_become_22 : decode cX1_become 22 = .ok (.iload_n 2, 1) := by decide +kernel
theorem dX1_become_23 : decode cX1_become 23 = .ok (.invokestatic 31, 3) := by decide +kernel
theorem dX1_become_26 : decode cX1_become 26 = .ok (.invokevirtual 35, 3) := by decide +kernel
theorem dX1_become_29 : decode cX1_become 29 = .ok (.iinc 2 1, 3) := by decide +kernel
theorem dX1_become_32 : decode cX1_become 32 = .ok (.goto (-30), 3) := by decide +kernel
theorem dX1_become_35 : decode cX1_become 35 = .ok (.aload_n 0, 1) := by decide +kernel
theorem dX1_become_36 : decode cX1_become 36 = .ok (.aload_n 1, 1) := by decide +kernel
theorem dX1_become_37 : decode cX1_become 37 = .ok (.getfield 24, 3) := by decide +kernel
theorem dX1_become_40 : decode cX1_become 40 = .ok (.putfield 24, 3) := by decide +kernel
theorem dX1_become_43 : decode cX1_become 43 = .ok (.aload_n 0, 1) := by decide +kernel
theorem dX1_become_44 : decode cX1_become 44 = .ok (.aload_n 1, 1) := by decide +kernel
theorem dX1_become_45 : decode cX1_become 45 = .ok (.getfield 28, 3) := by decide +kernel
theorem dX1_become_48 : decode cX1_become 48 = .ok (.putfield 28, 3) := by decide +kernel
theorem dX1_become_51 : decode cX1_become 51 = .ok (.return_, 1) := by decide +kernel
theorem dX1_write_0 : decode cX1_write 0 = .ok (.aload_n 0, 1) := by decide +kernel
theorem dX1_write_1 : decode cX1_write 1 = .ok (.getfield 9, 3) := by decide +kernel
theorem dX1_write_4 : decode cX1_write 4 = .ok (.iload_n 1, 1) := by decide +kernel
theorem dX1_write_5 : decode cX1_write 5 = .ok (.iload_n 2, 1) := by decide +kernel
theorem dX1_write_6 : decode cX1_write 6 = .ok (.invokestatic 39, 3) := by decide +kernel
theorem dX1_write_9 : decode cX1_write 9 = .ok (.aload_n 0, 1) := by decide +kernel
theorem dX1_write_10 : decode cX1_write 10 = .ok (.getfield 15, 3) := by decide +kernel
theorem dX1_write_13 : decode cX1_write 13 = .ok (.iload_n 1, 1) := by decide +kernel
theorem dX1_write_14 : decode cX1_write 14 = .ok (.iload_n 3, 1) := by decide +kernel
theorem dX1_write_15 : decode cX1_write 15 = .ok (.invokestatic 39, 3) := by decide +kernel
theorem dX1_write_18 : decode cX1_write 18 = .ok (.return_, 1) := by decide +kernel
theorem dX1_there_0 : decode cX1_there 0 = .ok (.iconst 0, 1) := by decide +kernel
theorem dX1_there_1 : decode cX1_there 1 = .ok (.istore_n 1, 1) := by decide +kernel
theorem dX1_there_2 : decode cX1_there 2 = .ok (.iconst 0, 1) := by decide +kernel
theorem dX1_there_3 : decode cX1_there 3 = .ok (.istore_n 2, 1) := by decide +kernel
theorem dX1_there_4 : decode cX1_there 4 = .ok (.iload_n 2, 1) := by decide +kernel
theorem dX1_there_5 : decode cX1_there 5 = .ok (.bipush 8, 2) := by decide +kernel
theorem dX1_there_7 : decode cX1_there 7 = .ok (.if_icmp .ge 30, 3) := by decide +kernel
theorem dX1_there_10 : decode cX1_there 10 = .ok (.aload_n 0, 1) := by decide +kernel
theorem dX1_there_11 : decode cX1_there 11 = .ok (.getfield 9, 3) := by decide +kernel
theorem dX1_there_14 : decode cX1_there 14 = .ok (.iload_n 2, 1) := by decide +kernel
theorem dX1_there_15 : decode cX1_there 15 = .ok (.invokestatic 31, 3) := by decide +kernel
theorem dX1_there_18 : decode cX1_there 18 = .ok (.istore_n 3, 1) := by decide +kernel
theorem dX1_there_19 : decode cX1_there 19 = .ok (.iload_n 3, 1) := by decide +kernel
theorem dX1_there_20 : decode cX1_there 20 = .ok (.bipush (-9), 2) := by decide +kernel
theorem dX1_there_22 : decode cX1_there 22 = .ok (.if_icmp .eq 9, 3) := by decide +kernel
theorem dX1_there_25 : decode cX1_there 25 = .ok (.iload_n 1, 1) := by decide +kernel
theorem dX1_there_26 : decode cX1_there 26 = .ok (.iconst 1, 1) := by decide +kernel
theorem dX1_there_27 : decode cX1_there 27 = .ok (.iload_n 3, 1) := by decide +kernel
theorem dX1_there_28 : decode cX1_there 28 = .ok (.ishl, 1) := by decide +kernel
theorem dX1_there_29 : decode cX1_there 29 = .ok (.ior, 1) := by decide +kernel
theorem dX1_there_30 : decode cX1_there 30 = .ok (.istore_n 1, 1) := by decide +kernel
theorem dX1_there_31 : decode cX1_there 31 = .ok (.iinc 2 1, 3) := by decide +kernel
theorem dX1_there_34 : decode cX1_there 34 = .ok (.goto (-30), 3) := by decide +kernel
theorem dX1_there_37 : decode cX1_there 37 = .ok (.iload_n 1, 1) := by decide +kernel
theorem dX1_there_38 : decode cX1_there 38 = .ok (.ireturn, 1) := by decide +kernel
theorem dX1_seatOf_0 : decode cX1_seatOf 0 = .ok (.iconst 0, 1) := by decide +kernel
theorem dX1_seatOf_1 : decode cX1_seatOf 1 = .ok (.istore_n 2, 1) := by decide +kernel
theorem dX1_seatOf_2 : decode cX1_seatOf 2 = .ok (.iload_n 2, 1) := by decide +kernel
theorem dX1_seatOf_3 : decode cX1_seatOf 3 = .ok (.bipush 8, 2) := by decide +kernel
theorem dX1_seatOf_5 : decode cX1_seatOf 5 = .ok (.if_icmp .ge 23, 3) := by decide +kernel
theorem dX1_seatOf_8 : decode cX1_seatOf 8 = .ok (.aload_n 0, 1) := by decide +kernel
theorem dX1_seatOf_9 : decode cX1_seatOf 9 = .ok (.getfield 9, 3) := by decide +kernel
theorem dX1_seatOf_12 : decode cX1_seatOf 12 = .ok (.iload_n 2, 1) := by decide +kernel
theorem dX1_seatOf_13 : decode cX1_seatOf 13 = .ok (.invokestatic 31, 3) := by decide +kernel
theorem dX1_seatOf_16 : decode cX1_seatOf 16 = .ok (.iload_n 1, 1) := by decide +kernel
theorem dX1_seatOf_17 : decode cX1_seatOf 17 = .ok (.if_icmp .ne 5, 3) := by decide +kernel
theorem dX1_seatOf_20 : decode cX1_seatOf 20 = .ok (.iload_n 2, 1) := by decide +kernel
theorem dX1_seatOf_21 : decode cX1_seatOf 21 = .ok (.ireturn, 1) := by decide +kernel
theorem dX1_seatOf_22 : decode cX1_seatOf 22 = .ok (.iinc 2 1, 3) := by decide +kernel
theorem dX1_seatOf_25 : decode cX1_seatOf 25 = .ok (.goto (-23), 3) := by decide +kernel
theorem dX1_seatOf_28 : decode cX1_seatOf 28 = .ok (.bipush (-9), 2) := by decide +kernel
theorem dX1_seatOf_30 : decode cX1_seatOf 30 = .ok (.ireturn, 1) := by decide +kernel
theorem dX1_inkOf_0 : decode cX1_inkOf 0 = .ok (.aload_n 0, 1) := by decide +kernel
theorem dX1_inkOf_1 : decode cX1_inkOf 1 = .ok (.iload_n 1, 1) := by decide +kernel
theorem dX1_inkOf_2 : decode cX1_inkOf 2 = .ok (.invokevirtual 43, 3) := by decide +kernel
theorem dX1_inkOf_5 : decode cX1_inkOf 5 = .ok (.istore_n 2, 1) := by decide +kernel
theorem dX1_inkOf_6 : decode cX1_inkOf 6 = .ok (.iload_n 2, 1) := by decide +kernel
theorem dX1_inkOf_7 : decode cX1_inkOf 7 = .ok (.bipush (-9), 2) := by decide +kernel
theorem dX1_inkOf_9 : decode cX1_inkOf 9 = .ok (.if_icmp .ne 7, 3) := by decide +kernel
theorem dX1_inkOf_12 : decode cX1_inkOf 12 = .ok (.iconst 0, 1) := by decide +kernel
theorem dX1_inkOf_13 : decode cX1_inkOf 13 = .ok (.goto 11, 3) := by decide +kernel
theorem dX1_inkOf_16 : decode cX1_inkOf 16 = .ok (.aload_n 0, 1) := by decide +kernel
theorem dX1_inkOf_17 : decode cX1_inkOf 17 = .ok (.getfield 15, 3) := by decide +kernel
theorem dX1_inkOf_20 : decode cX1_inkOf 20 = .ok (.iload_n 2, 1) := by decide +kernel
theorem dX1_inkOf_21 : decode cX1_inkOf 21 = .ok (.invokestatic 31, 3) := by decide +kernel
theorem dX1_inkOf_24 : decode cX1_inkOf 24 = .ok (.ireturn, 1) := by decide +kernel
theorem dX2_init_0 : decode cX2_init 0 = .ok (.aload_n 0, 1) := by decide +kernel
theorem dX2_init_1 : decode cX2_init 1 = .ok (.invokespecial 5, 3) := by decide +kernel
theorem dX2_init_4 : decode cX2_init 4 = .ok (.aload_n 0, 1) := by decide +kernel
theorem dX2_init_5 : decode cX2_init 5 = .ok (.sipush 5040, 3) := by decide +kernel
theorem dX2_init_8 : decode cX2_init 8 = .ok (.newarray .int, 2) := by decide +kernel
theorem dX2_init_10 : decode cX2_init 10 = .ok (.putfield 11, 3) := by decide +kernel
theorem dX2_init_13 : decode cX2_init 13 = .ok (.aload_n 0, 1) := by decide +kernel
theorem dX2_init_14 : decode cX2_init 14 = .ok (.sipush 5040, 3) := by decide +kernel
theorem dX2_init_17 : decode cX2_init 17 = .ok (.newarray .int, 2) := by decide +kernel
theorem dX2_init_19 : decode cX2_init 19 = .ok (.putfield 15, 3) := by decide +kernel
theorem dX2_init_22 : decode cX2_init 22 = .ok (.aload_n 0, 1) := by decide +kernel
theorem dX2_init_23 : decode cX2_init 23 = .ok (.bipush 7, 2) := by decide +kernel
theorem dX2_init_25 : decode cX2_init 25 = .ok (.newarray .int, 2) := by decide +kernel
theorem dX2_init_27 : decode cX2_init 27 = .ok (.putfield 18, 3) := by decide +kernel
theorem dX2_init_30 : decode cX2_init 30 = .ok (.return_, 1) := by decide +kernel
theorem dX2_find_0 : decode cX2_find 0 = .ok (.aload_n 0, 1) := by decide +kernel
theorem dX2_find_1 : decode cX2_find 1 = .ok (.iconst 0, 1) := by decide +kernel
theorem dX2_find_2 : decode cX2_find 2 = .ok (.putfield 21, 3) := by decide +kernel
theorem dX2_find_5 : decode cX2_find 5 = .ok (.aload_n 0, 1) := by decide +kernel
theorem dX2_find_6 : decode cX2_find 6 = .ok (.iconst 0, 1) := by decide +kernel
theorem dX2_find_7 : decode cX2_find 7 = .ok (.putfield 25, 3) := by decide +kernel
theorem dX2_find_10 : decode cX2_find 10 = .ok (.aload_n 0, 1) := by decide +kernel
theorem dX2_find_11 : decode cX2_find 11 = .ok (.aload_n 2, 1) := by decide +kernel
theorem dX2_find_12 : decode cX2_find 12 = .ok (.getfield 28, 3) := by decide +kernel
theorem dX2_find_15 : decode cX2_find 15 = .ok (.putfield 33, 3) := by decide +kernel
theorem dX2_find_18 : decode cX2_find 18 = .ok (.iconst 0, 1) := by decide +kernel
theorem dX2_find_19 : decode cX2_find 19 = .ok (.istore 4, 2) := by decide +kernel
theorem dX2_find_21 : decode cX2_find 21 = .ok (.iload 4, 2) := by decide +kernel
theorem dX2_find_23 : decode cX2_find 23 = .ok (.bipush 8, 2) := by decide +kernel
theorem dX2_find_25 : decode cX2_find 25 = .ok (.if_icmp .ge 64, 3) := by decide +kernel
theorem dX2_find_28 : decode cX2_find 28 = .ok (.aload_n 2, 1) := by decide +kernel
theorem dX2_find_29 : decode cX2_find 29 = .ok (.getfield 34, 3) := by decide +kernel
theorem dX2_find_32 : decode cX2_find 32 = .ok (.iload 4, 2) := by decide +kernel
theorem dX2_find_34 : decode cX2_find 34 = .ok (.invokestatic 37, 3) := by decide +kernel
theorem dX2_find_37 : decode cX2_find 37 = .ok (.istore 5, 2) := by decide +kernel
theorem dX2_find_39 : decode cX2_find 39 = .ok (.iload 5, 2) := by decide +kernel
theorem dX2_find_41 : decode cX2_find 41 = .ok (.bipush (-9), 2) := by decide +kernel
theorem dX2_find_43 : decode cX2_find 43 = .ok (.if_icmp .eq 40, 3) := by decide +kernel
theorem dX2_find_46 : decode cX2_find 46 = .ok (.iload 4, 2) := by decide +kernel
theorem dX2_find_48 : decode cX2_find 48 = .ok (.iload_n 3, 1) := by decide +kernel
theorem dX2_find_49 : decode cX2_find 49 = .ok (.if_icmp .eq 34, 3) := by decide +kernel
theorem dX2_find_52 : decode cX2_find 52 = .ok (.aload_n 0, 1) := by decide +kernel
theorem dX2_find_53 : decode cX2_find 53 = .ok (.dup, 1) := by decide +kernel
theorem dX2_find_54 : decode cX2_find 54 = .ok (.getfield 25, 3) := by decide +kernel
theorem dX2_find_57 : decode cX2_find 57 = .ok (.iconst 1, 1) := by decide +kernel
theorem dX2_find_58 : decode cX2_find 58 = .ok (.iload 5, 2) := by decide +kernel
theorem dX2_find_60 : decode cX2_find 60 = .ok (.ishl, 1) := by decide +kernel
theorem dX2_find_61 : decode cX2_find 61 = .ok (.ior, 1) := by decide +kernel
theorem dX2_find_62 : decode cX2_find 62 = .ok (.putfield 25, 3) := by decide +kernel
theorem dX2_find_65 : decode cX2_find 65 = .ok (.aload_n 0, 1) := by decide +kernel
theorem dX2_find_66 : decode cX2_find 66 = .ok (.getfield 18, 3) := by decide +kernel
theorem dX2_find_69 : decode cX2_find 69 = .ok (.iload 5, 2) := by decide +kernel
theorem dX2_find_71 : decode cX2_find 71 = .ok (.aload_n 2, 1) := by decide +kernel
theorem dX2_find_72 : decode cX2_find 72 = .ok (.getfield 41, 3) := by decide +kernel
theorem dX2_find_75 : decode cX2_find 75 = .ok (.iload 4, 2) := by decide +kernel
theorem dX2_find_77 : decode cX2_find 77 = .ok (.invokestatic 37, 3) := by decide +kernel
theorem dX2_find_80 : decode cX2_find 80 = .ok (.invokestatic 42, 3) := by decide +kernel
theorem dX2_find_83 : decode cX2_find 83 = .ok (.iinc 4 1, 3) := by decide +kernel
theorem dX2_find_86 : decode cX2_find 86 = .ok (.goto (-65), 3) := by decide +kernel
theorem dX2_find_89 : decode cX2_find 89 = .ok (.aload_n 0, 1) := by decide +kernel
theorem dX2_find_90 : decode cX2_find 90 = .ok (.aload_n 1, 1) := by decide +kernel
theorem dX2_find_91 : decode cX2_find 91 = .ok (.iconst 0, 1) := by decide +kernel
theorem dX2_find_92 : decode cX2_find 92 = .ok (.iconst 0, 1) := by decide +kernel
theorem dX2_find_93 : decode cX2_find 93 = .ok (.iconst 0, 1) := by decide +kernel
theorem dX2_find_94 : decode cX2_find 94 = .ok (.ldc 46, 2) := by decide +kernel
theorem dX2_find_96 : decode cX2_find 96 = .ok (.invokestatic 47, 3) := by decide +kernel
theorem dX2_find_99 : decode cX2_find 99 = .ok (.return_, 1) := by decide +kernel
theorem dX2_extend_0 : decode cX2_extend 0 = .ok (.iload_n 3, 1) := by decide +kernel
theorem dX2_extend_1 : decode cX2_extend 1 = .ok (.aload_n 0, 1) := by decide +kernel
theorem dX2_extend_2 : decode cX2_extend 2 = .ok (.getfield 25, 3) := by decide +kernel
theorem dX2_extend_5 : decode cX2_extend 5 = .ok (.if_icmp .ne 10, 3) := by decide +kernel
theorem dX2_extend_8 : decode cX2_extend 8 = .ok (.aload_n 0, 1) := by decide +kernel
theorem dX2_extend_9 : decode cX2_extend 9 = .ok (.iload 5, 2) := by decide +kernel
theorem dX2_extend_11 : decode cX2_extend 11 = .ok (.invokevirtual 51, 3) := by decide +kernel
theorem dX2_extend_14 : decode cX2_extend 14 = .ok (.return_, 1) := by decide +kernel
theorem dX2_extend_15 : decode cX2_extend 15 = .ok (.iload_n 2, 1) := by decide +kernel
theorem dX2_extend_16 : decode cX2_extend 16 = .ok (.bipush 7, 2) := by decide +kernel
theorem dX2_extend_18 : decode cX2_extend 18 = .ok (.if_icmp .lt 4, 3) := by decide +kernel
theorem dX2_extend_21 : decode cX2_extend 21 = .ok (.return_, 1) := by decide +kernel
theorem dX2_extend_22 : decode cX2_extend 22 = .ok (.aload_n 1, 1) := by decide +kernel
theorem dX2_extend_23 : decode cX2_extend 23 = .ok (.iload_n 2, 1) := by decide +kernel
theorem dX2_extend_24 : decode cX2_extend 24 = .ok (.invokevirtual 55, 3) := by decide +kernel
theorem dX2_extend_27 : decode cX2_extend 27 = .ok (.istore 6, 2) := by decide +kernel
theorem dX2_extend_29 : decode cX2_extend 29 = .ok (.iconst 0, 1) := by decide +kernel
theorem dX2_extend_30 : decode cX2_extend 30 = .ok (.istore 7, 2) := by decide +kernel
theorem dX2_extend_32 : decode cX2_extend 32 = .ok (.iload 7, 2) := by decide +kernel
theorem dX2_extend_34 : decode cX2_extend 34 = .ok (.bipush 7, 2) := by decide +kernel
theorem dX2_extend_36 : decode cX2_extend 36 = .ok (.if_icmp .ge 123, 3) := by decide +kernel
theorem dX2_extend_39 : decode cX2_extend 39 = .ok (.aload_n 0, 1) := by decide +kernel
theorem dX2_extend_40 : decode cX2_extend 40 = .ok (.getfield 25, 3) := by decide +kernel
theorem dX2_extend_43 : decode cX2_extend 43 = .ok (.iload_n 3, 1) := by decide +kernel
theorem dX2_extend_44 : decode cX2_extend 44 = .ok (.iconst (-1), 1) := by decide +kernel
theorem dX2_extend_45 : decode cX2_extend 45 = .ok (.ixor, 1) := by decide +kernel
theorem dX2_extend_46 : decode cX2_extend 46 = .ok (.iand, 1) := by decide +kernel
theorem dX2_extend_47 : decode cX2_extend 47 = .ok (.iload 7, 2) := by decide +kernel
theorem dX2_extend_49 : decode cX2_extend 49 = .ok (.invokestatic 61, 3) := by decide +kernel
theorem dX2_extend_52 : decode cX2_extend 52 = .ok (.ifCond .eq 101, 3) := by decide +kernel
theorem dX2_extend_55 : decode cX2_extend 55 = .ok (.aload_n 0, 1) := by decide +kernel
theorem dX2_extend_56 : decode cX2_extend 56 = .ok (.getfield 18, 3) := by decide +kernel
theorem dX2_extend_59 : decode cX2_extend 59 = .ok (.iload 7, 2) := by decide +kernel
theorem dX2_extend_61 : decode cX2_extend 61 = .ok (.invokestatic 37, 3) := by decide +kernel
theorem dX2_extend_64 : decode cX2_extend 64 = .ok (.iload 6, 2) := by decide +kernel
theorem dX2_extend_66 : decode cX2_extend 66 = .ok (.if_icmp .ne 87, 3) := by decide +kernel
theorem dX2_extend_69 : decode cX2_extend 69 = .ok (.aload_n 1, 1) := by decide +kernel
theorem dX2_extend_70 : decode cX2_extend 70 = .ok (.iload 7, 2) := by decide +kernel
theorem dX2_extend_72 : decode cX2_extend 72 = .ok (.iload_n 3, 1) := by decide +kernel
theorem dX2_extend_73 : decode cX2_extend 73 = .ok (.invokevirtual 65, 3) := by decide +kernel
theorem dX2_extend_76 : decode cX2_extend 76 = .ok (.ifCond .eq 77, 3) := by decide +kernel
theorem dX2_extend_79 : decode cX2_extend 79 = .ok (.aload_n 1, 1) := by decide +kernel
theorem dX2_extend_80 : decode cX2_extend 80 = .ok (.iload 7, 2) := by decide +kernel
theorem dX2_extend_82 : decode cX2_extend 82 = .ok (.iload 4, 2) := by decide +kernel
theorem dX2_extend_84 : decode cX2_extend 84 = .ok (.invokevirtual 68, 3) := by decide +kernel
theorem dX2_extend_87 : decode cX2_extend 87 = .ok (.ifCond .eq 10, 3) := by decide +kernel
theorem dX2_extend_90 : decode cX2_extend 90 = .ok (.iload 4, 2) := by decide +kernel
theorem dX2_extend_92 : decode cX2_extend 92 = .ok (.iconst 1, 1) := by decide +kernel
theorem dX2_extend_93 : decode cX2_extend 93 = .ok (.iadd, 1) := by decide +kernel
theorem dX2_extend_94 : decode cX2_extend 94 = .ok (.goto 5, 3) := by decide +kernel
theorem dX2_extend_97 : decode cX2_extend 97 = .ok (.iload 4, 2) := by decide +kernel
theorem dX2_extend_99 : decode cX2_extend 99 = .ok (.istore 8, 2) := by decide +kernel
theorem dX2_extend_101 : decode cX2_extend 101 = .ok (.iload_n 2, 1) := by decide +kernel
theorem dX2_extend_102 : decode cX2_extend 102 = .ok (.ifCond .ne 11, 3) := by decide +kernel
theorem dX2_extend_105 : decode cX2_extend 105 = .ok (.iload 7, 2) := by decide +kernel
theorem dX2_extend_107 : decode cX2_extend 107 = .ok (.bipush 21, 2) := by decide +kernel
theorem dX2_extend_109 : decode cX2_extend 109 = .ok (.ishl, 1) := by decide +kernel
theorem dX2_extend_110 : decode cX2_extend 110 = .ok (.goto 12, 3) := by decide +kernel
theorem dX2_extend_113 : decode cX2_extend 113 = .ok (.iload 5, 2) := by decide +kernel
theorem dX2_extend_115 : decode cX2_extend 115 = .ok (.iload_n 2, 1) := by decide +kernel
theorem dX2_extend_116 : decode cX2_extend 116 = .ok (.iconst 3, 1) := by decide +kernel
theorem dX2_extend_117 : decode cX2_extend 117 = .ok (.iload 7, 2) := by decide +kernel
theorem dX2_extend_119 : decode cX2_extend 119 = .ok (.imul, 1) := by decide +kernel
theorem dX2_extend_120 : decode cX2_extend 120 = .ok (.ishl, 1) := by decide +kernel
theorem dX2_extend_121 : decode cX2_extend 121 = .ok (.ior, 1) := by decide +kernel
theorem dX2_extend_122 : decode cX2_extend 122 = .ok (.istore 9, 2) := by decide +kernel
theorem dX2_extend_124 : decode cX2_extend 124 = .ok (.iload 8, 2) := by decide +kernel
theorem dX2_extend_126 : decode cX2_extend 126 = .ok (.aload_n 0, 1) := by decide +kernel
theorem dX2_extend_127 : decode cX2_extend 127 = .ok (.getfield 33, 3) := by decide +kernel
theorem dX2_extend_130 : decode cX2_extend 130 = .ok (.if_icmp .ge 23, 3) := by decide +kernel
theorem dX2_extend_133 : decode cX2_extend 133 = .ok (.aload_n 0, 1) := by decide +kernel
theorem dX2_extend_134 : decode cX2_extend 134 = .ok (.aload_n 1, 1) := by decide +kernel
theorem dX2_extend_135 : decode cX2_extend 135 = .ok (.iload_n 2, 1) := by decide +kernel
theorem dX2_extend_136 : decode cX2_extend 136 = .ok (.iconst 1, 1) := by decide +kernel
theorem dX2_extend_137 : decode cX2_extend 137 = .ok (.iadd, 1) := by decide +kernel
theorem dX2_extend_138 : decode cX2_extend 138 = .ok (.iload_n 3, 1) := by decide +kernel
theorem dX2_extend_139 : decode cX2_extend 139 = .ok (.iconst 1, 1) := by decide +kernel
theorem dX2_extend_140 : decode cX2_extend 140 = .ok (.iload 7, 2) := by decide +kernel
theorem dX2_extend_142 : decode cX2_extend 142 = .ok (.ishl, 1) := by decide +kernel
theorem dX2_extend_143 : decode cX2_extend 143 = .ok (.ior, 1) := by decide +kernel
theorem dX2_extend_144 : decode cX2_extend 144 = .ok (.iload 8, 2) := by decide +kernel
theorem dX2_extend_146 : decode cX2_extend 146 = .ok (.iconst 1, 1) := by decide +kernel
theorem dX2_extend_147 : decode cX2_extend 147 = .ok (.iadd, 1) := by decide +kernel
theorem dX2_extend_148 : decode cX2_extend 148 = .ok (.iload 9, 2) := by decide +kernel
theorem dX2_extend_150 : decode cX2_extend 150 = .ok (.invokestatic 47, 3) := by decide +kernel
theorem dX2_extend_153 : decode cX2_extend 153 = .ok (.iinc 7 1, 3) := by decide +kernel
theorem dX2_extend_156 : decode cX2_extend 156 = .ok (.goto (-124), 3) := by decide +kernel
theorem dX2_extend_159 : decode cX2_extend 159 = .ok (.return_, 1) := by decide +kernel
theorem dX2_add_0 : decode cX2_add 0 = .ok (.aload_n 0, 1) := by decide +kernel
theorem dX2_add_1 : decode cX2_add 1 = .ok (.getfield 21, 3) := by decide +kernel
theorem dX2_add_4 : decode cX2_add 4 = .ok (.sipush 5040, 3) := by decide +kernel
theorem dX2_add_7 : decode cX2_add 7 = .ok (.if_icmp .ge 25, 3) := by decide +kernel
theorem dX2_add_10 : decode cX2_add 10 = .ok (.aload_n 0, 1) := by decide +kernel
theorem dX2_add_11 : decode cX2_add 11 = .ok (.getfield 11, 3) := by decide +kernel
theorem dX2_add_14 : decode cX2_add 14 = .ok (.aload_n 0, 1) := by decide +kernel
theorem dX2_add_15 : decode cX2_add 15 = .ok (.getfield 21, 3) := by decide +kernel
theorem dX2_add_18 : decode cX2_add 18 = .ok (.iload_n 1, 1) := by decide +kernel
theorem dX2_add_19 : decode cX2_add 19 = .ok (.invokestatic 42, 3) := by decide +kernel
theorem dX2_add_22 : decode cX2_add 22 = .ok (.aload_n 0, 1) := by decide +kernel
theorem dX2_add_23 : decode cX2_add 23 = .ok (.dup, 1) := by decide +kernel
theorem dX2_add_24 : decode cX2_add 24 = .ok (.getfield 21, 3) := by decide +kernel
theorem dX2_add_27 : decode cX2_add 27 = .ok (.iconst 1, 1) := by decide +kernel
theorem dX2_add_28 : decode cX2_add 28 = .ok (.iadd, 1) := by decide +kernel
theorem dX2_add_29 : decode cX2_add 29 = .ok (.putfield 21, 3) := by decide +kernel
theorem dX2_add_32 : decode cX2_add 32 = .ok (.return_, 1) := by decide +kernel
theorem dX2_placeOf_0 : decode cX2_placeOf 0 = .ok (.iload_n 0, 1) := by decide +kernel
theorem dX2_placeOf_1 : decode cX2_placeOf 1 = .ok (.iconst 3, 1) := by decide +kernel
theorem dX2_placeOf_2 : decode cX2_placeOf 2 = .ok (.iload_n 1, 1) := by decide +kernel
theorem dX2_placeOf_3 : decode cX2_placeOf 3 = .ok (.imul, 1) := by decide +kernel
theorem dX2_placeOf_4 : decode cX2_placeOf 4 = .ok (.iushr, 1) := by decide +kernel
theorem dX2_placeOf_5 : decode cX2_placeOf 5 = .ok (.bipush 7, 2) := by decide +kernel
theorem dX2_placeOf_7 : decode cX2_placeOf 7 = .ok (.iand, 1) := by decide +kernel
theorem dX2_placeOf_8 : decode cX2_placeOf 8 = .ok (.ireturn, 1) := by decide +kernel
theorem dX2_firstOf_0 : decode cX2_firstOf 0 = .ok (.iload_n 0, 1) := by decide +kernel
theorem dX2_firstOf_1 : decode cX2_firstOf 1 = .ok (.bipush 21, 2) := by decide +kernel
theorem dX2_firstOf_3 : decode cX2_firstOf 3 = .ok (.iushr, 1) := by decide +kernel
theorem dX2_firstOf_4 : decode cX2_firstOf 4 = .ok (.ireturn, 1) := by decide +kernel
theorem dX2_firsts_0 : decode cX2_firsts 0 = .ok (.iconst 0, 1) := by decide +kernel
theorem dX2_firsts_1 : decode cX2_firsts 1 = .ok (.istore_n 1, 1) := by decide +kernel
theorem dX2_firsts_2 : decode cX2_firsts 2 = .ok (.iconst 0, 1) := by decide +kernel
theorem dX2_firsts_3 : decode cX2_firsts 3 = .ok (.istore_n 2, 1) := by decide +kernel
theorem dX2_firsts_4 : decode cX2_firsts 4 = .ok (.iload_n 2, 1) := by decide +kernel
theorem dX2_firsts_5 : decode cX2_firsts 5 = .ok (.aload_n 0, 1) := by decide +kernel
theorem dX2_firsts_6 : decode cX2_firsts 6 = .ok (.getfield 21, 3) := by decide +kernel
theorem dX2_firsts_9 : decode cX2_firsts 9 = .ok (.if_icmp .ge 25, 3) := by decide +kernel
theorem dX2_firsts_12 : decode cX2_firsts 12 = .ok (.iload_n 1, 1) := by decide +kernel
theorem dX2_firsts_13 : decode cX2_firsts 13 = .ok (.iconst 1, 1) := by decide +kernel
theorem dX2_firsts_14 : decode cX2_firsts 14 = .ok (.aload_n 0, 1) := by decide +kernel
theorem dX2_firsts_15 : decode cX2_firsts 15 = .ok (.getfield 11, 3) := by decide +kernel
theorem dX2_firsts_18 : decode cX2_firsts 18 = .ok (.iload_n 2, 1) := by decide +kernel
theorem dX2_firsts_19 : decode cX2_firsts 19 = .ok (.invokestatic 37, 3) := by decide +kernel
theorem dX2_firsts_22 : decode cX2_firsts 22 = .ok (.invokestatic 71, 3) := by decide +kernel
theorem dX2_firsts_25 : decode cX2_firsts 25 = .ok (.ishl, 1) := by decide +kernel
theorem dX2_firsts_26 : decode cX2_firsts 26 = .ok (.ior, 1) := by decide +kernel
theorem dX2_firsts_27 : decode cX2_firsts 27 = .ok (.istore_n 1, 1) := by decide +kernel
theorem dX2_firsts_28 : decode cX2_firsts 28 = .ok (.iinc 2 1, 3) := by decide +kernel
theorem dX2_firsts_31 : decode cX2_firsts 31 = .ok (.goto (-27), 3) := by decide +kernel
theorem dX2_firsts_34 : decode cX2_firsts 34 = .ok (.iload_n 1, 1) := by decide +kernel
theorem dX2_firsts_35 : decode cX2_firsts 35 = .ok (.aload_n 0, 1) := by decide +kernel
theorem dX2_firsts_36 : decode cX2_firsts 36 = .ok (.getfield 25, 3) := by decide +kernel
theorem dX2_firsts_39 : decode cX2_firsts 39 = .ok (.iand, 1) := by decide +kernel
theorem dX2_firsts_40 : decode cX2_firsts 40 = .ok (.ireturn, 1) := by decide +kernel
theorem dX2_timesFirst_0 : decode cX2_timesFirst 0 = .ok (.iconst 0, 1) := by decide +kernel
theorem dX2_timesFirst_1 : decode cX2_timesFirst 1 = .ok (.istore_n 2, 1) := by decide +kernel
theorem dX2_timesFirst_2 : decode cX2_timesFirst 2 = .ok (.iconst 0, 1) := by decide +kernel
theorem dX2_timesFirst_3 : decode cX2_timesFirst 3 = .ok (.istore_n 3, 1) := by decide +kernel
theorem dX2_timesFirst_4 : decode cX2_timesFirst 4 = .ok (.iload_n 3, 1) := by decide +kernel
theorem dX2_timesFirst_5 : decode cX2_timesFirst 5 = .ok (.aload_n 0, 1) := by decide +kernel
theorem dX2_timesFirst_6 : decode cX2_timesFirst 6 = .ok (.getfield 21, 3) := by decide +kernel
theorem dX2_timesFirst_9 : decode cX2_timesFirst 9 = .ok (.if_icmp .ge 27, 3) := by decide +kernel
theorem dX2_timesFirst_12 : decode cX2_timesFirst 12 = .ok (.aload_n 0, 1) := by decide +kernel
theorem dX2_timesFirst_13 : decode cX2_timesFirst 13 = .ok (.getfield 11, 3) := by decide +kernel
theorem dX2_timesFirst_16 : decode cX2_timesFirst 16 = .ok (.iload_n 3, 1) := by decide +kernel
theorem dX2_timesFirst_17 : decode cX2_timesFirst 17 = .ok (.invokestatic 37, 3) := by decide +kernel
theorem dX2_timesFirst_20 : decode cX2_timesFirst 20 = .ok (.invokestatic 71, 3) := by decide +kernel
theorem dX2_timesFirst_23 : decode cX2_timesFirst 23 = .ok (.iload_n 1, 1) := by decide +kernel
theorem dX2_timesFirst_24 : decode cX2_timesFirst 24 = .ok (.if_icmp .ne 6, 3) := by decide +kernel
theorem dX2_timesFirst_27 : decode cX2_timesFirst 27 = .ok (.iinc 2 1, 3) := by decide +kernel
theorem dX2_timesFirst_30 : decode cX2_timesFirst 30 = .ok (.iinc 3 1, 3) := by decide +kernel
theorem dX2_timesFirst_33 : decode cX2_timesFirst 33 = .ok (.goto (-29), 3) := by decide +kernel
theorem dX2_timesFirst_36 : decode cX2_timesFirst 36 = .ok (.iload_n 2, 1) := by decide +kernel
theorem dX2_timesFirst_37 : decode cX2_timesFirst 37 = .ok (.ireturn, 1) := by decide +kernel
theorem dX2_likeliestFirst_0 : decode cX2_likeliestFirst 0 = .ok (.bipush (-9), 2) := by decide +kernel
theorem dX2_likeliestFirst_2 : decode cX2_likeliestFirst 2 = .ok (.istore_n 1, 1) := by decide +kernel
theorem dX2_likeliestFirst_3 : decode cX2_likeliestFirst 3 = .ok (.iconst 0, 1) := by decide +kernel
theorem dX2_likeliestFirst_4 : decode cX2_likeliestFirst 4 = .ok (.istore_n 2, 1) := by decide +kernel
theorem dX2_likeliestFirst_5 : decode cX2_likeliestFirst 5 = .ok (.iconst 0, 1) := by decide +kernel
theorem dX2_likeliestFirst_6 : decode cX2_likeliestFirst 6 = .ok (.istore_n 3, 1) := by decide +kernel
theorem dX2_likeliestFirst_7 : decode cX2_likeliestFirst 7 = .ok (.iload_n 3, 1) := by decide +kernel
theorem dX2_likeliestFirst_8 : decode cX2_likeliestFirst 8 = .ok (.bipush 7, 2) := by decide +kernel
theorem dX2_likeliestFirst_10 : decode cX2_likeliestFirst 10 = .ok (.if_icmp .ge 27, 3) := by decide +kernel
theorem dX2_likeliestFirst_13 : decode cX2_likeliestFirst 13 = .ok (.aload_n 0, 1) := by decide +kernel
theorem dX2_likeliestFirst_14 : decode cX2_likeliestFirst 14 = .ok (.iload_n 3, 1) := by decide +kernel
theorem dX2_likeliestFirst_15 : decode cX2_likeliestFirst 15 = .ok (.invokevirtual 74, 3) := by decide +kernel
theorem dX2_likeliestFirst_18 : decode cX2_likeliestFirst 18 = .ok (.istore 4, 2) := by decide +kernel
theorem dX2_likeliestFirst_20 : decode cX2_likeliestFirst 20 = .ok (.iload 4, 2) := by decide +kernel
theorem dX2_likeliestFirst_22 : decode cX2_likeliestFirst 22 = .ok (.iload_n 2, 1) := by decide +kernel
theorem dX2_likeliestFirst_23 : decode cX2_likeliestFirst 23 = .ok (.if_icmp .le 8, 3) := by decide +kernel
theorem dX2_likeliestFirst_26 : decode cX2_likeliestFirst 26 = .ok (.iload 4, 2) := by decide +kernel
theorem dX2_likeliestFirst_28 : decode cX2_likeliestFirst 28 = .ok (.istore_n 2, 1) := by decide +kernel
theorem dX2_likeliestFirst_29 : decode cX2_likeliestFirst 29 = .ok (.iload_n 3, 1) := by decide +kernel
theorem dX2_likeliestFirst_30 : decode cX2_likeliestFirst 30 = .ok (.istore_n 1, 1) := by decide +kernel
theorem dX2_likeliestFirst_31 : decode cX2_likeliestFirst 31 = .ok (.iinc 3 1, 3) := by decide +kernel
theorem dX2_likeliestFirst_34 : decode cX2_likeliestFirst 34 = .ok (.goto (-27), 3) := by decide +kernel
theorem dX2_likeliestFirst_37 : decode cX2_likeliestFirst 37 = .ok (.iload_n 1, 1) := by decide +kernel
theorem dX2_likeliestFirst_38 : decode cX2_likeliestFirst 38 = .ok (.ireturn, 1) := by decide +kernel
theorem dX2_alwaysAheadOf_0 : decode cX2_alwaysAheadOf 0 = .ok (.aload_n 0, 1) := by decide +kernel
theorem dX2_alwaysAheadOf_1 : decode cX2_alwaysAheadOf 1 = .ok (.getfield 21, 3) := by decide +kernel
theorem dX2_alwaysAheadOf_4 : decode cX2_alwaysAheadOf 4 = .ok (.ifCond .le 16, 3) := by decide +kernel
theorem dX2_alwaysAheadOf_7 : decode cX2_alwaysAheadOf 7 = .ok (.aload_n 0, 1) := by decide +kernel
theorem dX2_alwaysAheadOf_8 : decode cX2_alwaysAheadOf 8 = .ok (.getfield 25, 3) := by decide +kernel
theorem dX2_alwaysAheadOf_11 : decode cX2_alwaysAheadOf 11 = .ok (.iconst 1, 1) := by decide +kernel
theorem dX2_alwaysAheadOf_12 : decode cX2_alwaysAheadOf 12 = .ok (.iload_n 1, 1) := by decide +kernel
theorem dX2_alwaysAheadOf_13 : decode cX2_alwaysAheadOf 13 = .ok (.ishl, 1) := by decide +kernel
theorem dX2_alwaysAheadOf_14 : decode cX2_alwaysAheadOf 14 = .ok (.iconst (-1), 1) := by decide +kernel
theorem dX2_alwaysAheadOf_15 : decode cX2_alwaysAheadOf 15 = .ok (.ixor, 1) := by decide +kernel
theorem dX2_alwaysAheadOf_16 : decode cX2_alwaysAheadOf 16 = .ok (.iand, 1) := by decide +kernel
theorem dX2_alwaysAheadOf_17 : decode cX2_alwaysAheadOf 17 = .ok (.goto 4, 3) := by decide +kernel
theorem dX2_alwaysAheadOf_20 : decode cX2_alwaysAheadOf 20 = .ok (.iconst 0, 1) := by decide +kernel
theorem dX2_alwaysAheadOf_21 : decode cX2_alwaysAheadOf 21 = .ok (.istore_n 2, 1) := by decide +kernel
theorem dX2_alwaysAheadOf_22 : decode cX2_alwaysAheadOf 22 = .ok (.iconst 0, 1) := by decide +kernel
theorem dX2_alwaysAheadOf_23 : decode cX2_alwaysAheadOf 23 = .ok (.istore_n 3, 1) := by decide +kernel
theorem dX2_alwaysAheadOf_24 : decode cX2_alwaysAheadOf 24 = .ok (.iload_n 3, 1) := by decide +kernel
theorem dX2_alwaysAheadOf_25 : decode cX2_alwaysAheadOf 25 = .ok (.aload_n 0, 1) := by decide +kernel
theorem dX2_alwaysAheadOf_26 : decode cX2_alwaysAheadOf 26 = .ok (.getfield 21, 3) := by decide +kernel
theorem dX2_alwaysAheadOf_29 : decode cX2_alwaysAheadOf 29 = .ok (.if_icmp .ge 29, 3) := by decide +kernel
theorem dX2_alwaysAheadOf_32 : decode cX2_alwaysAheadOf 32 = .ok (.iload_n 2, 1) := by decide +kernel
theorem dX2_alwaysAheadOf_33 : decode cX2_alwaysAheadOf 33 = .ok (.ifCond .eq 25, 3) := by decide +kernel
theorem dX2_alwaysAheadOf_36 : decode cX2_alwaysAheadOf 36 = .ok (.iload_n 2, 1) := by decide +kernel
theorem dX2_alwaysAheadOf_37 : decode cX2_alwaysAheadOf 37 = .ok (.aload_n 0, 1) := by decide +kernel
theorem dX2_alwaysAheadOf_38 : decode cX2_alwaysAheadOf 38 = .ok (.aload_n 0, 1) := by decide +kernel
theorem dX2_alwaysAheadOf_39 : decode cX2_alwaysAheadOf 39 = .ok (.getfield 11, 3) := by decide +kernel
theorem dX2_alwaysAheadOf_42 : decode cX2_alwaysAheadOf 42 = .ok (.iload_n 3, 1) := by decide +kernel
theorem dX2_alwaysAheadOf_43 : decode cX2_alwaysAheadOf 43 = .ok (.invokestatic 37, 3) := by decide +kernel
theorem dX2_alwaysAheadOf_46 : decode cX2_alwaysAheadOf 46 = .ok (.iload_n 1, 1) := by decide +kernel
theorem dX2_alwaysAheadOf_47 : decode cX2_alwaysAheadOf 47 = .ok (.invokevirtual 77, 3) := by decide +kernel
theorem dX2_alwaysAheadOf_50 : decode cX2_alwaysAheadOf 50 = .ok (.iand, 1) := by decide +kernel
theorem dX2_alwaysAheadOf_51 : decode cX2_alwaysAheadOf 51 = .ok (.istore_n 2, 1) := by decide +kernel
theorem dX2_alwaysAheadOf_52 : decode cX2_alwaysAheadOf 52 = .ok (.iinc 3 1, 3) := by decide +kernel
theorem dX2_alwaysAheadOf_55 : decode cX2_alwaysAheadOf 55 = .ok (.goto (-31), 3) := by decide +kernel
theorem dX2_alwaysAheadOf_58 : decode cX2_alwaysAheadOf 58 = .ok (.iload_n 2, 1) := by decide +kernel
theorem dX2_alwaysAheadOf_59 : decode cX2_alwaysAheadOf 59 = .ok (.ireturn, 1) := by decide +kernel
theorem dX2_aheadOf_0 : decode cX2_aheadOf 0 = .ok (.iload_n 1, 1) := by decide +kernel
theorem dX2_aheadOf_1 : decode cX2_aheadOf 1 = .ok (.iload_n 2, 1) := by decide +kernel
theorem dX2_aheadOf_2 : decode cX2_aheadOf 2 = .ok (.invokestatic 81, 3) := by decide +kernel
theorem dX2_aheadOf_5 : decode cX2_aheadOf 5 = .ok (.istore_n 3, 1) := by decide +kernel
theorem dX2_aheadOf_6 : decode cX2_aheadOf 6 = .ok (.iconst 0, 1) := by decide +kernel
theorem dX2_aheadOf_7 : decode cX2_aheadOf 7 = .ok (.istore 4, 2) := by decide +kernel
theorem dX2_aheadOf_9 : decode cX2_aheadOf 9 = .ok (.iconst 0, 1) := by decide +kernel
theorem dX2_aheadOf_10 : decode cX2_aheadOf 10 = .ok (.istore 5, 2) := by decide +kernel
theorem dX2_aheadOf_12 : decode cX2_aheadOf 12 = .ok (.iload 5, 2) := by decide +kernel
theorem dX2_aheadOf_14 : decode cX2_aheadOf 14 = .ok (.bipush 7, 2) := by decide +kernel
theorem dX2_aheadOf_16 : decode cX2_aheadOf 16 = .ok (.if_icmp .ge 40, 3) := by decide +kernel
theorem dX2_aheadOf_19 : decode cX2_aheadOf 19 = .ok (.aload_n 0, 1) := by decide +kernel
theorem dX2_aheadOf_20 : decode cX2_aheadOf 20 = .ok (.getfield 25, 3) := by decide +kernel
theorem dX2_aheadOf_23 : decode cX2_aheadOf 23 = .ok (.iload 5, 2) := by decide +kernel
theorem dX2_aheadOf_25 : decode cX2_aheadOf 25 = .ok (.invokestatic 61, 3) := by decide +kernel
theorem dX2_aheadOf_28 : decode cX2_aheadOf 28 = .ok (.ifCond .eq 22, 3) := by decide +kernel
theorem dX2_aheadOf_31 : decode cX2_aheadOf 31 = .ok (.iload_n 1, 1) := by decide +kernel
theorem dX2_aheadOf_32 : decode cX2_aheadOf 32 = .ok (.iload 5, 2) := by decide +kernel
theorem dX2_aheadOf_34 : decode cX2_aheadOf 34 = .ok (.invokestatic 81, 3) := by decide +kernel
theorem dX2_aheadOf_37 : decode cX2_aheadOf 37 = .ok (.iload_n 3, 1) := by decide +kernel
theorem dX2_aheadOf_38 : decode cX2_aheadOf 38 = .ok (.if_icmp .ge 12, 3) := by decide +kernel
theorem dX2_aheadOf_41 : decode cX2_aheadOf 41 = .ok (.iload 4, 2) := by decide +kernel
theorem dX2_aheadOf_43 : decode cX2_aheadOf 43 = .ok (.iconst 1, 1) := by decide +kernel
theorem dX2_aheadOf_44 : decode cX2_aheadOf 44 = .ok (.iload 5, 2) := by decide +kernel
theorem dX2_aheadOf_46 : decode cX2_aheadOf 46 = .ok (.ishl, 1) := by decide +kernel
theorem dX2_aheadOf_47 : decode cX2_aheadOf 47 = .ok (.ior, 1) := by decide +kernel
theorem dX2_aheadOf_48 : decode cX2_aheadOf 48 = .ok (.istore 4, 2) := by decide +kernel
theorem dX2_aheadOf_50 : decode cX2_aheadOf 50 = .ok (.iinc 5 1, 3) := by decide +kernel
theorem dX2_aheadOf_53 : decode cX2_aheadOf 53 = .ok (.goto (-41), 3) := by decide +kernel
theorem dX2_aheadOf_56 : decode cX2_aheadOf 56 = .ok (.iload 4, 2) := by decide +kernel
theorem dX2_aheadOf_58 : decode cX2_aheadOf 58 = .ok (.ireturn, 1) := by decide +kernel
theorem dX2_fewestToAsk_0 : decode cX2_fewestToAsk 0 = .ok (.aload_n 0, 1) := by decide +kernel
theorem dX2_fewestToAsk_1 : decode cX2_fewestToAsk 1 = .ok (.getfield 21, 3) := by decide +kernel
theorem dX2_fewestToAsk_4 : decode cX2_fewestToAsk 4 = .ok (.ifCond .ne 6, 3) := by decide +kernel
theorem dX2_fewestToAsk_7 : decode cX2_fewestToAsk 7 = .ok (.bipush (-9), 2) := by decide +kernel
theorem dX2_fewestToAsk_9 : decode cX2_fewestToAsk 9 = .ok (.ireturn, 1) := by decide +kernel
theorem dX2_fewestToAsk_10 : decode cX2_fewestToAsk 10 = .ok (.aload_n 0, 1) := by decide +kernel
theorem dX2_fewestToAsk_11 : decode cX2_fewestToAsk 11 = .ok (.getfield 15, 3) := by decide +kernel
theorem dX2_fewestToAsk_14 : decode cX2_fewestToAsk 14 = .ok (.bipush (-9), 2) := by decide +kernel
theorem dX2_fewestToAsk_16 : decode cX2_fewestToAsk 16 = .ok (.invokestatic 84, 3) := by decide +kernel
theorem dX2_fewestToAsk_19 : decode cX2_fewestToAsk 19 = .ok (.iconst 0, 1) := by decide +kernel
theorem dX2_fewestToAsk_20 : decode cX2_fewestToAsk 20 = .ok (.istore_n 1, 1) := by decide +kernel
theorem dX2_fewestToAsk_21 : decode cX2_fewestToAsk 21 = .ok (.iload_n 1, 1) := by decide +kernel
theorem dX2_fewestToAsk_22 : decode cX2_fewestToAsk 22 = .ok (.bipush 7, 2) := by decide +kernel
theorem dX2_fewestToAsk_24 : decode cX2_fewestToAsk 24 = .ok (.if_icmp .gt 54, 3) := by decide +kernel
theorem dX2_fewestToAsk_27 : decode cX2_fewestToAsk 27 = .ok (.iconst 0, 1) := by decide +kernel
theorem dX2_fewestToAsk_28 : decode cX2_fewestToAsk 28 = .ok (.istore_n 2, 1) := by decide +kernel
theorem dX2_fewestToAsk_29 : decode cX2_fewestToAsk 29 = .ok (.iload_n 2, 1) := by decide +kernel
theorem dX2_fewestToAsk_30 : decode cX2_fewestToAsk 30 = .ok (.aload_n 0, 1) := by decide +kernel
theorem dX2_fewestToAsk_31 : decode cX2_fewestToAsk 31 = .ok (.getfield 25, 3) := by decide +kernel
theorem dX2_fewestToAsk_34 : decode cX2_fewestToAsk 34 = .ok (.if_icmp .gt 38, 3) := by decide +kernel
theorem dX2_fewestToAsk_37 : decode cX2_fewestToAsk 37 = .ok (.iload_n 2, 1) := by decide +kernel
theorem dX2_fewestToAsk_38 : decode cX2_fewestToAsk 38 = .ok (.aload_n 0, 1) := by decide +kernel
theorem dX2_fewestToAsk_39 : decode cX2_fewestToAsk 39 = .ok (.getfield 25, 3) := by decide +kernel
theorem dX2_fewestToAsk_42 : decode cX2_fewestToAsk 42 = .ok (.iconst (-1), 1) := by decide +kernel
theorem dX2_fewestToAsk_43 : decode cX2_fewestToAsk 43 = .ok (.ixor, 1) := by decide +kernel
theorem dX2_fewestToAsk_44 : decode cX2_fewestToAsk 44 = .ok (.iand, 1) := by decide +kernel
theorem dX2_fewestToAsk_45 : decode cX2_fewestToAsk 45 = .ok (.ifCond .ne 21, 3) := by decide +kernel
theorem dX2_fewestToAsk_48 : decode cX2_fewestToAsk 48 = .ok (.iload_n 2, 1) := by decide +kernel
theorem dX2_fewestToAsk_49 : decode cX2_fewestToAsk 49 = .ok (.invokestatic 90, 3) := by decide +kernel
theorem dX2_fewestToAsk_52 : decode cX2_fewestToAsk 52 = .ok (.iload_n 1, 1) := by decide +kernel
theorem dX2_fewestToAsk_53 : decode cX2_fewestToAsk 53 = .ok (.if_icmp .ne 13, 3) := by decide +kernel
theorem dX2_fewestToAsk_56 : decode cX2_fewestToAsk 56 = .ok (.aload_n 0, 1) := by decide +kernel
theorem dX2_fewestToAsk_57 : decode cX2_fewestToAsk 57 = .ok (.iload_n 2, 1) := by decide +kernel
theorem dX2_fewestToAsk_58 : decode cX2_fewestToAsk 58 = .ok (.invokevirtual 95, 3) := by decide +kernel
theorem dX2_fewestToAsk_61 : decode cX2_fewestToAsk 61 = .ok (.ifCond .eq 5, 3) := by decide +kernel
theorem dX2_fewestToAsk_64 : decode cX2_fewestToAsk 64 = .ok (.iload_n 2, 1) := by decide +kernel
theorem dX2_fewestToAsk_65 : decode cX2_fewestToAsk 65 = .ok (.ireturn, 1) := by decide +kernel
theorem dX2_fewestToAsk_66 : decode cX2_fewestToAsk 66 = .ok (.iinc 2 1, 3) := by decide +kernel
theorem dX2_fewestToAsk_69 : decode cX2_fewestToAsk 69 = .ok (.goto (-40), 3) := by decide +kernel
theorem dX2_fewestToAsk_72 : decode cX2_fewestToAsk 72 = .ok (.iinc 1 1, 3) := by decide +kernel
theorem dX2_fewestToAsk_75 : decode cX2_fewestToAsk 75 = .ok (.goto (-54), 3) := by decide +kernel
theorem dX2_fewestToAsk_78 : decode cX2_fewestToAsk 78 = .ok (.aload_n 0, 1) := by decide +kernel
theorem dX2_fewestToAsk_79 : decode cX2_fewestToAsk 79 = .ok (.getfield 25, 3) := by decide +kernel
theorem dX2_fewestToAsk_82 : decode cX2_fewestToAsk 82 = .ok (.ireturn, 1) := by decide +kernel
theorem dX2_tellWhoWasFirst_0 : decode cX2_tellWhoWasFirst 0 = .ok (.iconst 0, 1) := by decide +kernel
theorem dX2_tellWhoWasFirst_1 : decode cX2_tellWhoWasFirst 1 = .ok (.istore_n 2, 1) := by decide +kernel
theorem dX2_tellWhoWasFirst_2 : decode cX2_tellWhoWasFirst 2 = .ok (.iload_n 2, 1) := by decide +kernel
theorem dX2_tellWhoWasFirst_3 : decode cX2_tellWhoWasFirst 3 = .ok (.aload_n 0, 1) := by decide +kernel
theorem dX2_tellWhoWasFirst_4 : decode cX2_tellWhoWasFirst 4 = .ok (.getfield 21, 3) := by decide +kernel
theorem dX2_tellWhoWasFirst_7 : decode cX2_tellWhoWasFirst 7 = .ok (.if_icmp .ge 87, 3) := by decide +kernel
theorem dX2_tellWhoWasFirst_10 : decode cX2_tellWhoWasFirst 10 = .ok (.aload_n 0, 1) := by decide +kernel
theorem dX2_tellWhoWasFirst_11 : decode cX2_tellWhoWasFirst 11 = .ok (.getfield 11, 3) := by decide +kernel
theorem dX2_tellWhoWasFirst_14 : decode cX2_tellWhoWasFirst 14 = .ok (.iload_n 2, 1) := by decide +kernel
theorem dX2_tellWhoWasFirst_15 : decode cX2_tellWhoWasFirst 15 = .ok (.invokestatic 37, 3) := by decide +kernel
theorem dX2_tellWhoWasFirst_18 : decode cX2_tellWhoWasFirst 18 = .ok (.istore_n 3, 1) := by decide +kernel
theorem dX2_tellWhoWasFirst_19 : decode cX2_tellWhoWasFirst 19 = .ok (.iload_n 3, 1) := by decide +kernel
theorem dX2_tellWhoWasFirst_20 : decode cX2_tellWhoWasFirst 20 = .ok (.invokestatic 71, 3) := by decide +kernel
theorem dX2_tellWhoWasFirst_23 : decode cX2_tellWhoWasFirst 23 = .ok (.istore 4, 2) := by decide +kernel
theorem dX2_tellWhoWasFirst_25 : decode cX2_tellWhoWasFirst 25 = .ok (.iload_n 1, 1) := by decide +kernel
theorem dX2_tellWhoWasFirst_26 : decode cX2_tellWhoWasFirst 26 = .ok (.iload 4, 2) := by decide +kernel
theorem dX2_tellWhoWasFirst_28 : decode cX2_tellWhoWasFirst 28 = .ok (.invokestatic 61, 3) := by decide +kernel
theorem dX2_tellWhoWasFirst_31 : decode cX2_tellWhoWasFirst 31 = .ok (.ifCond .ne 57, 3) := by decide +kernel
theorem dX2_tellWhoWasFirst_34 : decode cX2_tellWhoWasFirst 34 = .ok (.aload_n 0, 1) := by decide +kernel
theorem dX2_tellWhoWasFirst_35 : decode cX2_tellWhoWasFirst 35 = .ok (.iload_n 3, 1) := by decide +kernel
theorem dX2_tellWhoWasFirst_36 : decode cX2_tellWhoWasFirst 36 = .ok (.iload_n 1, 1) := by decide +kernel
theorem dX2_tellWhoWasFirst_37 : decode cX2_tellWhoWasFirst 37 = .ok (.invokevirtual 99, 3) := by decide +kernel
theorem dX2_tellWhoWasFirst_40 : decode cX2_tellWhoWasFirst 40 = .ok (.istore 5, 2) := by decide +kernel
theorem dX2_tellWhoWasFirst_42 : decode cX2_tellWhoWasFirst 42 = .ok (.aload_n 0, 1) := by decide +kernel
theorem dX2_tellWhoWasFirst_43 : decode cX2_tellWhoWasFirst 43 = .ok (.getfield 15, 3) := by decide +kernel
theorem dX2_tellWhoWasFirst_46 : decode cX2_tellWhoWasFirst 46 = .ok (.iload 5, 2) := by decide +kernel
theorem dX2_tellWhoWasFirst_48 : decode cX2_tellWhoWasFirst 48 = .ok (.invokestatic 37, 3) := by decide +kernel
theorem dX2_tellWhoWasFirst_51 : decode cX2_tellWhoWasFirst 51 = .ok (.istore 6, 2) := by decide +kernel
theorem dX2_tellWhoWasFirst_53 : decode cX2_tellWhoWasFirst 53 = .ok (.iload 6, 2) := by decide +kernel
theorem dX2_tellWhoWasFirst_55 : decode cX2_tellWhoWasFirst 55 = .ok (.iconst 3, 1) := by decide +kernel
theorem dX2_tellWhoWasFirst_56 : decode cX2_tellWhoWasFirst 56 = .ok (.ishr, 1) := by decide +kernel
theorem dX2_tellWhoWasFirst_57 : decode cX2_tellWhoWasFirst 57 = .ok (.iload_n 1, 1) := by decide +kernel
theorem dX2_tellWhoWasFirst_58 : decode cX2_tellWhoWasFirst 58 = .ok (.if_icmp .ne 15, 3) := by decide +kernel
theorem dX2_tellWhoWasFirst_61 : decode cX2_tellWhoWasFirst 61 = .ok (.iload 6, 2) := by decide +kernel
theorem dX2_tellWhoWasFirst_63 : decode cX2_tellWhoWasFirst 63 = .ok (.bipush 7, 2) := by decide +kernel
theorem dX2_tellWhoWasFirst_65 : decode cX2_tellWhoWasFirst 65 = .ok (.iand, 1) := by decide +kernel
theorem dX2_tellWhoWasFirst_66 : decode cX2_tellWhoWasFirst 66 = .ok (.iload 4, 2) := by decide +kernel
theorem dX2_tellWhoWasFirst_68 : decode cX2_tellWhoWasFirst 68 = .ok (.if_icmp .eq 5, 3) := by decide +kernel
theorem dX2_tellWhoWasFirst_71 : decode cX2_tellWhoWasFirst 71 = .ok (.iconst 0, 1) := by decide +kernel
theorem dX2_tellWhoWasFirst_72 : decode cX2_tellWhoWasFirst 72 = .ok (.ireturn, 1) := by decide +kernel
theorem dX2_tellWhoWasFirst_73 : decode cX2_tellWhoWasFirst 73 = .ok (.aload_n 0, 1) := by decide +kernel
theorem dX2_tellWhoWasFirst_74 : decode cX2_tellWhoWasFirst 74 = .ok (.getfield 15, 3) := by decide +kernel
theorem dX2_tellWhoWasFirst_77 : decode cX2_tellWhoWasFirst 77 = .ok (.iload 5, 2) := by decide +kernel
theorem dX2_tellWhoWasFirst_79 : decode cX2_tellWhoWasFirst 79 = .ok (.iload_n 1, 1) := by decide +kernel
theorem dX2_tellWhoWasFirst_80 : decode cX2_tellWhoWasFirst 80 = .ok (.iconst 3, 1) := by decide +kernel
theorem dX2_tellWhoWasFirst_81 : decode cX2_tellWhoWasFirst 81 = .ok (.ishl, 1) := by decide +kernel
theorem dX2_tellWhoWasFirst_82 : decode cX2_tellWhoWasFirst 82 = .ok (.iload 4, 2) := by decide +kernel
theorem dX2_tellWhoWasFirst_84 : decode cX2_tellWhoWasFirst 84 = .ok (.ior, 1) := by decide +kernel
theorem dX2_tellWhoWasFirst_85 : decode cX2_tellWhoWasFirst 85 = .ok (.invokestatic 42, 3) := by decide +kernel
theorem dX2_tellWhoWasFirst_88 : decode cX2_tellWhoWasFirst 88 = .ok (.iinc 2 1, 3) := by decide +kernel
theorem dX2_tellWhoWasFirst_91 : decode cX2_tellWhoWasFirst 91 = .ok (.goto (-89), 3) := by decide +kernel
theorem dX2_tellWhoWasFirst_94 : decode cX2_tellWhoWasFirst 94 = .ok (.iconst 1, 1) := by decide +kernel
theorem dX2_tellWhoWasFirst_95 : decode cX2_tellWhoWasFirst 95 = .ok (.ireturn, 1) := by decide +kernel
theorem dX2_rankOfPlaces_0 : decode cX2_rankOfPlaces 0 = .ok (.aload_n 0, 1) := by decide +kernel
theorem dX2_rankOfPlaces_1 : decode cX2_rankOfPlaces 1 = .ok (.getfield 25, 3) := by decide +kernel
theorem dX2_rankOfPlaces_4 : decode cX2_rankOfPlaces 4 = .ok (.invokestatic 90, 3) := by decide +kernel
theorem dX2_rankOfPlaces_7 : decode cX2_rankOfPlaces 7 = .ok (.istore_n 3, 1) := by decide +kernel
theorem dX2_rankOfPlaces_8 : decode cX2_rankOfPlaces 8 = .ok (.iconst 0, 1) := by decide +kernel
theorem dX2_rankOfPlaces_9 : decode cX2_rankOfPlaces 9 = .ok (.istore 4, 2) := by decide +kernel
theorem dX2_rankOfPlaces_11 : decode cX2_rankOfPlaces 11 = .ok (.iconst 0, 1) := by decide +kernel
theorem dX2_rankOfPlaces_12 : decode cX2_rankOfPlaces 12 = .ok (.istore 5, 2) := by decide +kernel
theorem dX2_rankOfPlaces_14 : decode cX2_rankOfPlaces 14 = .ok (.iconst 0, 1) := by decide +kernel
theorem dX2_rankOfPlaces_15 : decode cX2_rankOfPlaces 15 = .ok (.istore 6, 2) := by decide +kernel
theorem dX2_rankOfPlaces_17 : decode cX2_rankOfPlaces 17 = .ok (.iload 6, 2) := by decide +kernel
theorem dX2_rankOfPlaces_19 : decode cX2_rankOfPlaces 19 = .ok (.bipush 7, 2) := by decide +kernel
theorem dX2_rankOfPlaces_21 : decode cX2_rankOfPlaces 21 = .ok (.if_icmp .ge 60, 3) := by decide +kernel
theorem dX2_rankOfPlaces_24 : decode cX2_rankOfPlaces 24 = .ok (.iload_n 2, 1) := by decide +kernel
theorem dX2_rankOfPlaces_25 : decode cX2_rankOfPlaces 25 = .ok (.iload 6, 2) := by decide +kernel
theorem dX2_rankOfPlaces_27 : decode cX2_rankOfPlaces 27 = .ok (.invokestatic 61, 3) := by decide +kernel
theorem dX2_rankOfPlaces_30 : decode cX2_rankOfPlaces 30 = .ok (.ifCond .eq 45, 3) := by decide +kernel
theorem dX2_rankOfPlaces_33 : decode cX2_rankOfPlaces 33 = .ok (.iload_n 1, 1) := by decide +kernel
theorem dX2_rankOfPlaces_34 : decode cX2_rankOfPlaces 34 = .ok (.iload 6, 2) := by decide +kernel
theorem dX2_rankOfPlaces_36 : decode cX2_rankOfPlaces 36 = .ok (.invokestatic 81, 3) := by decide +kernel
theorem dX2_rankOfPlaces_39 : decode cX2_rankOfPlaces 39 = .ok (.istore 7, 2) := by decide +kernel
theorem dX2_rankOfPlaces_41 : decode cX2_rankOfPlaces 41 = .ok (.iload 5, 2) := by decide +kernel
theorem dX2_rankOfPlaces_43 : decode cX2_rankOfPlaces 43 = .ok (.iload_n 3, 1) := by decide +kernel
theorem dX2_rankOfPlaces_44 : decode cX2_rankOfPlaces 44 = .ok (.imul, 1) := by decide +kernel
theorem dX2_rankOfPlaces_45 : decode cX2_rankOfPlaces 45 = .ok (.iload 7, 2) := by decide +kernel
theorem dX2_rankOfPlaces_47 : decode cX2_rankOfPlaces 47 = .ok (.iadd, 1) := by decide +kernel
theorem dX2_rankOfPlaces_48 : decode cX2_rankOfPlaces 48 = .ok (.iload 4, 2) := by decide +kernel
theorem dX2_rankOfPlaces_50 : decode cX2_rankOfPlaces 50 = .ok (.iconst 1, 1) := by decide +kernel
theorem dX2_rankOfPlaces_51 : decode cX2_rankOfPlaces 51 = .ok (.iload 7, 2) := by decide +kernel
theorem dX2_rankOfPlaces_53 : decode cX2_rankOfPlaces 53 = .ok (.ishl, 1) := by decide +kernel
theorem dX2_rankOfPlaces_54 : decode cX2_rankOfPlaces 54 = .ok (.iconst 1, 1) := by decide +kernel
theorem dX2_rankOfPlaces_55 : decode cX2_rankOfPlaces 55 = .ok (.isub, 1) := by decide +kernel
theorem dX2_rankOfPlaces_56 : decode cX2_rankOfPlaces 56 = .ok (.iand, 1) := by decide +kernel
theorem dX2_rankOfPlaces_57 : decode cX2_rankOfPlaces 57 = .ok (.invokestatic 90, 3) := by decide +kernel
theorem dX2_rankOfPlaces_60 : decode cX2_rankOfPlaces 60 = .ok (.isub, 1) := by decide +kernel
theorem dX2_rankOfPlaces_61 : decode cX2_rankOfPlaces 61 = .ok (.istore 5, 2) := by decide +kernel
theorem dX2_rankOfPlaces_63 : decode cX2_rankOfPlaces 63 = .ok (.iload 4, 2) := by decide +kernel
theorem dX2_rankOfPlaces_65 : decode cX2_rankOfPlaces 65 = .ok (.iconst 1, 1) := by decide +kernel
theorem dX2_rankOfPlaces_66 : decode cX2_rankOfPlaces 66 = .ok (.iload 7, 2) := by decide +kernel
theorem dX2_rankOfPlaces_68 : decode cX2_rankOfPlaces 68 = .ok (.ishl, 1) := by decide +kernel
theorem dX2_rankOfPlaces_69 : decode cX2_rankOfPlaces 69 = .ok (.ior, 1) := by decide +kernel
theorem dX2_rankOfPlaces_70 : decode cX2_rankOfPlaces 70 = .ok (.istore 4, 2) := by decide +kernel
theorem dX2_rankOfPlaces_72 : decode cX2_rankOfPlaces 72 = .ok (.iinc 3 (-1), 3) := by decide +kernel
theorem dX2_rankOfPlaces_75 : decode cX2_rankOfPlaces 75 = .ok (.iinc 6 1, 3) := by decide +kernel
theorem dX2_rankOfPlaces_78 : decode cX2_rankOfPlaces 78 = .ok (.goto (-61), 3) := by decide +kernel
theorem dX2_rankOfPlaces_81 : decode cX2_rankOfPlaces 81 = .ok (.iload 5, 2) := by decide +kernel
theorem dX2_rankOfPlaces_83 : decode cX2_rankOfPlaces 83 = .ok (.ireturn, 1) := by decide +kernel
theorem dX3_init_0 : decode cX3_init 0 = .ok (.aload_n 0, 1) := by decide +kernel
theorem dX3_init_1 : decode cX3_init 1 = .ok (.invokespecial 3, 3) := by decide +kernel
theorem dX3_init_4 : decode cX3_init 4 = .ok (.aload_n 0, 1) := by decide +kernel
theorem dX3_init_5 : decode cX3_init 5 = .ok (.bipush 10, 2) := by decide +kernel
theorem dX3_init_7 : decode cX3_init 7 = .ok (.anewarray 9, 3) := by decide +kernel
theorem dX3_init_10 : decode cX3_init 10 = .ok (.putfield 11, 3) := by decide +kernel
theorem dX3_init_13 : decode cX3_init 13 = .ok (.iconst 0, 1) := by decide +kernel
theorem dX3_init_14 : decode cX3_init 14 = .ok (.istore_n 1, 1) := by decide +kernel
theorem dX3_init_15 : decode cX3_init 15 = .ok (.iload_n 1, 1) := by decide +kernel
theorem dX3_init_16 : decode cX3_init 16 = .ok (.aload_n 0, 1) := by decide +kernel
theorem dX3_init_17 : decode cX3_init 17 = .ok (.getfield 11, 3) := by decide +kernel
theorem dX3_init_20 : decode cX3_init 20 = .ok (.arraylength, 1) := by decide +kernel
theorem dX3_init_21 : decode cX3_init 21 = .ok (.if_icmp .ge 22, 3) := by decide +kernel
theorem dX3_init_24 : decode cX3_init 24 = .ok (.aload_n 0, 1) := by decide +kernel
theorem dX3_init_25 : decode cX3_init 25 = .ok (.getfield 11, 3) := by decide +kernel
theorem dX3_init_28 : decode cX3_init 28 = .ok (.iload_n 1, 1) := by decide +kernel
theorem dX3_init_29 : decode cX3_init 29 = .ok (.new 9, 3) := by decide +kernel
theorem dX3_init_32 : decode cX3_init 32 = .ok (.dup, 1) := by decide +kernel
theorem dX3_init_33 : decode cX3_init 33 = .ok (.invokespecial 17, 3) := by decide +kernel
theorem dX3_init_36 : decode cX3_init 36 = .ok (.aastore, 1) := by decide +kernel
theorem dX3_init_37 : decode cX3_init 37 = .ok (.iinc 1 1, 3) := by decide +kernel
theorem dX3_init_40 : decode cX3_init 40 = .ok (.goto (-25), 3) := by decide +kernel
theorem dX3_init_43 : decode cX3_init 43 = .ok (.return_, 1) := by decide +kernel
theorem dX3_remember_0 : decode cX3_remember 0 = .ok (.aload_n 0, 1) := by decide +kernel
theorem dX3_remember_1 : decode cX3_remember 1 = .ok (.aload_n 0, 1) := by decide +kernel
theorem dX3_remember_2 : decode cX3_remember 2 = .ok (.getfield 18, 3) := by decide +kernel
theorem dX3_remember_5 : decode cX3_remember 5 = .ok (.invokevirtual 22, 3) := by decide +kernel
theorem dX3_remember_8 : decode cX3_remember 8 = .ok (.astore_n 2, 1) := by decide +kernel
theorem dX3_remember_9 : decode cX3_remember 9 = .ok (.aload_n 2, 1) := by decide +kernel
theorem dX3_remember_10 : decode cX3_remember 10 = .ok (.ifnonnull 4, 3) := by decide +kernel
theorem dX3_remember_13 : decode cX3_remember 13 = .ok (.return_, 1) := by decide +kernel
theorem dX3_remember_14 : decode cX3_remember 14 = .ok (.aload_n 2, 1) := by decide +kernel
theorem dX3_remember_15 : decode cX3_remember 15 = .ok (.aload_n 1, 1) := by decide +kernel
theorem dX3_remember_16 : decode cX3_remember 16 = .ok (.invokevirtual 26, 3) := by decide +kernel
theorem dX3_remember_19 : decode cX3_remember 19 = .ok (.aload_n 0, 1) := by decide +kernel
theorem dX3_remember_20 : decode cX3_remember 20 = .ok (.aload_n 0, 1) := by decide +kernel
theorem dX3_remember_21 : decode cX3_remember 21 = .ok (.getfield 18, 3) := by decide +kernel
theorem dX3_remember_24 : decode cX3_remember 24 = .ok (.iconst 1, 1) := by decide +kernel
theorem dX3_remember_25 : decode cX3_remember 25 = .ok (.iadd, 1) := by decide +kernel
theorem dX3_remember_26 : decode cX3_remember 26 = .ok (.bipush 10, 2) := by decide +kernel
theorem dX3_remember_28 : decode cX3_remember 28 = .ok (.if_icmp .ge 12, 3) := by decide +kernel
theorem dX3_remember_31 : decode cX3_remember 31 = .ok (.aload_n 0, 1) := by decide +kernel
theorem dX3_remember_32 : decode cX3_remember 32 = .ok (.getfield 18, 3) := by decide +kernel
theorem dX3_remember_35 : decode cX3_remember 35 = .ok (.iconst 1, 1) := by decide +kernel
theorem dX3_remember_36 : decode cX3_remember 36 = .ok (.iadd, 1) := by decide +kernel
theorem dX3_remember_37 : decode cX3_remember 37 = .ok (.goto 4, 3) := by decide +kernel
theorem dX3_remember_40 : decode cX3_remember 40 = .ok (.iconst 0, 1) := by decide +kernel
theorem dX3_remember_41 : decode cX3_remember 41 = .ok (.putfield 18, 3) := by decide +kernel
theorem dX3_remember_44 : decode cX3_remember 44 = .ok (.aload_n 0, 1) := by decide +kernel
theorem dX3_remember_45 : decode cX3_remember 45 = .ok (.aload_n 0, 1) := by decide +kernel
theorem dX3_remember_46 : decode cX3_remember 46 = .ok (.getfield 30, 3) := by decide +kernel
theorem dX3_remember_49 : decode cX3_remember 49 = .ok (.iconst 1, 1) := by decide +kernel
theorem dX3_remember_50 : decode cX3_remember 50 = .ok (.iadd, 1) := by decide +kernel
theorem dX3_remember_51 : decode cX3_remember 51 = .ok (.bipush 10, 2) := by decide +kernel
theorem dX3_remember_53 : decode cX3_remember 53 = .ok (.invokestatic 33, 3) := by decide +kernel
theorem dX3_remember_56 : decode cX3_remember 56 = .ok (.putfield 30, 3) := by decide +kernel
theorem dX3_remember_59 : decode cX3_remember 59 = .ok (.return_, 1) := by decide +kernel
theorem dX3_giveBack_0 : decode cX3_giveBack 0 = .ok (.aload_n 0, 1) := by decide +kernel
theorem dX3_giveBack_1 : decode cX3_giveBack 1 = .ok (.getfield 18, 3) := by decide +kernel
theorem dX3_giveBack_4 : decode cX3_giveBack 4 = .ok (.ifCond .le 12, 3) := by decide +kernel
theorem dX3_giveBack_7 : decode cX3_giveBack 7 = .ok (.aload_n 0, 1) := by decide +kernel
theorem dX3_giveBack_8 : decode cX3_giveBack 8 = .ok (.getfield 18, 3) := by decide +kernel
theorem dX3_giveBack_11 : decode cX3_giveBack 11 = .ok (.iconst 1, 1) := by decide +kernel
theorem dX3_giveBack_12 : decode cX3_giveBack 12 = .ok (.isub, 1) := by decide +kernel
theorem dX3_giveBack_13 : decode cX3_giveBack 13 = .ok (.goto 5, 3) := by decide +kernel
theorem dX3_giveBack_16 : decode cX3_giveBack 16 = .ok (.bipush 9, 2) := by decide +kernel
theorem dX3_giveBack_18 : decode cX3_giveBack 18 = .ok (.istore_n 2, 1) := by decide +kernel
theorem dX3_giveBack_19 : decode cX3_giveBack 19 = .ok (.aload_n 0, 1) := by decide +kernel
theorem dX3_giveBack_20 : decode cX3_giveBack 20 = .ok (.iload_n 2, 1) := by decide +kernel
theorem dX3_giveBack_21 : decode cX3_giveBack 21 = .ok (.invokevirtual 22, 3) := by decide +kernel
theorem dX3_giveBack_24 : decode cX3_giveBack 24 = .ok (.astore_n 3, 1) := by decide +kernel
theorem dX3_giveBack_25 : decode cX3_giveBack 25 = .ok (.aload_n 0, 1) := by decide +kernel
theorem dX3_giveBack_26 : decode cX3_giveBack 26 = .ok (.getfield 30, 3) := by decide +kernel
