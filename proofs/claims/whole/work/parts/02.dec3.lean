theorem dX6_reads_32 : decode cX6_reads 32 = .ok (.iconst 2, 1) := by decide +kernel
theorem dX6_reads_33 : decode cX6_reads 33 = .ok (.bipush 8, 2) := by decide +kernel
theorem dX6_reads_35 : decode cX6_reads 35 = .ok (.iastore, 1) := by decide +kernel
theorem dX6_reads_36 : decode cX6_reads 36 = .ok (.aload_n 0, 1) := by decide +kernel
theorem dX6_reads_37 : decode cX6_reads 37 = .ok (.iconst 0, 1) := by decide +kernel
theorem dX6_reads_38 : decode cX6_reads 38 = .ok (.putfield 60, 3) := by decide +kernel
theorem dX6_reads_41 : decode cX6_reads 41 = .ok (.aload_n 0, 1) := by decide +kernel
theorem dX6_reads_42 : decode cX6_reads 42 = .ok (.invokevirtual 80, 3) := by decide +kernel
theorem dX6_reads_45 : decode cX6_reads 45 = .ok (.aload_n 0, 1) := by decide +kernel
theorem dX6_reads_46 : decode cX6_reads 46 = .ok (.getfield 74, 3) := by decide +kernel
theorem dX6_reads_49 : decode cX6_reads 49 = .ok (.ifCond .eq 43, 3) := by decide +kernel
theorem dX6_reads_52 : decode cX6_reads 52 = .ok (.aload_n 0, 1) := by decide +kernel
theorem dX6_reads_53 : decode cX6_reads 53 = .ok (.invokevirtual 89, 3) := by decide +kernel
theorem dX6_reads_56 : decode cX6_reads 56 = .ok (.ifCond .ne 5, 3) := by decide +kernel
theorem dX6_reads_59 : decode cX6_reads 59 = .ok (.iconst 0, 1) := by decide +kernel
theorem dX6_reads_60 : decode cX6_reads 60 = .ok (.ireturn, 1) := by decide +kernel
theorem dX6_reads_61 : decode cX6_reads 61 = .ok (.aload_n 0, 1) := by decide +kernel
theorem dX6_reads_62 : decode cX6_reads 62 = .ok (.invokevirtual 80, 3) := by decide +kernel
theorem dX6_reads_65 : decode cX6_reads 65 = .ok (.aload_n 0, 1) := by decide +kernel
theorem dX6_reads_66 : decode cX6_reads 66 = .ok (.getfield 74, 3) := by decide +kernel
theorem dX6_reads_69 : decode cX6_reads 69 = .ok (.iconst 3, 1) := by decide +kernel
theorem dX6_reads_70 : decode cX6_reads 70 = .ok (.if_icmp .eq 5, 3) := by decide +kernel
theorem dX6_reads_73 : decode cX6_reads 73 = .ok (.iconst 0, 1) := by decide +kernel
theorem dX6_reads_74 : decode cX6_reads 74 = .ok (.ireturn, 1) := by decide +kernel
theorem dX6_reads_75 : decode cX6_reads 75 = .ok (.aload_n 0, 1) := by decide +kernel
theorem dX6_reads_76 : decode cX6_reads 76 = .ok (.getfield 16, 3) := by decide +kernel
theorem dX6_reads_79 : decode cX6_reads 79 = .ok (.iconst 3, 1) := by decide +kernel
theorem dX6_reads_80 : decode cX6_reads 80 = .ok (.dup2, 1) := by decide +kernel
theorem dX6_reads_81 : decode cX6_reads 81 = .ok (.iaload, 1) := by decide +kernel
theorem dX6_reads_82 : decode cX6_reads 82 = .ok (.iconst 1, 1) := by decide +kernel
theorem dX6_reads_83 : decode cX6_reads 83 = .ok (.iadd, 1) := by decide +kernel
theorem dX6_reads_84 : decode cX6_reads 84 = .ok (.iastore, 1) := by decide +kernel
theorem dX6_reads_85 : decode cX6_reads 85 = .ok (.aload_n 0, 1) := by decide +kernel
theorem dX6_reads_86 : decode cX6_reads 86 = .ok (.invokevirtual 80, 3) := by decide +kernel
theorem dX6_reads_89 : decode cX6_reads 89 = .ok (.goto (-44), 3) := by decide +kernel
theorem dX6_reads_92 : decode cX6_reads 92 = .ok (.iconst 1, 1) := by decide +kernel
theorem dX6_reads_93 : decode cX6_reads 93 = .ok (.ireturn, 1) := by decide +kernel
theorem dX6_tells_0 : decode cX6_tells 0 = .ok (.iconst 0, 1) := by decide +kernel
theorem dX6_tells_1 : decode cX6_tells 1 = .ok (.istore_n 1, 1) := by decide +kernel
theorem dX6_tells_2 : decode cX6_tells 2 = .ok (.iload_n 1, 1) := by decide +kernel
theorem dX6_tells_3 : decode cX6_tells 3 = .ok (.bipush 26, 2) := by decide +kernel
theorem dX6_tells_5 : decode cX6_tells 5 = .ok (.if_icmp .ge 21, 3) := by decide +kernel
theorem dX6_tells_8 : decode cX6_tells 8 = .ok (.aload_n 0, 1) := by decide +kernel
theorem dX6_tells_9 : decode cX6_tells 9 = .ok (.getfield 13, 3) := by decide +kernel
theorem dX6_tells_12 : decode cX6_tells 12 = .ok (.iload_n 1, 1) := by decide +kernel
theorem dX6_tells_13 : decode cX6_tells 13 = .ok (.aload_n 0, 1) := by decide +kernel
theorem dX6_tells_14 : decode cX6_tells 14 = .ok (.getfield 16, 3) := by decide +kernel
theorem dX6_tells_17 : decode cX6_tells 17 = .ok (.iload_n 1, 1) := by decide +kernel
theorem dX6_tells_18 : decode cX6_tells 18 = .ok (.iaload, 1) := by decide +kernel
theorem dX6_tells_19 : decode cX6_tells 19 = .ok (.iastore, 1) := by decide +kernel
theorem dX6_tells_20 : decode cX6_tells 20 = .ok (.iinc 1 1, 3) := by decide +kernel
theorem dX6_tells_23 : decode cX6_tells 23 = .ok (.goto (-21), 3) := by decide +kernel
theorem dX6_tells_26 : decode cX6_tells 26 = .ok (.iconst 0, 1) := by decide +kernel
theorem dX6_tells_27 : decode cX6_tells 27 = .ok (.istore_n 1, 1) := by decide +kernel
theorem dX6_tells_28 : decode cX6_tells 28 = .ok (.iload_n 1, 1) := by decide +kernel
theorem dX6_tells_29 : decode cX6_tells 29 = .ok (.bipush 7, 2) := by decide +kernel
theorem dX6_tells_31 : decode cX6_tells 31 = .ok (.if_icmp .ge 44, 3) := by decide +kernel
theorem dX6_tells_34 : decode cX6_tells 34 = .ok (.aload_n 0, 1) := by decide +kernel
theorem dX6_tells_35 : decode cX6_tells 35 = .ok (.getfield 13, 3) := by decide +kernel
theorem dX6_tells_38 : decode cX6_tells 38 = .ok (.bipush 19, 2) := by decide +kernel
theorem dX6_tells_40 : decode cX6_tells 40 = .ok (.iload_n 1, 1) := by decide +kernel
theorem dX6_tells_41 : decode cX6_tells 41 = .ok (.iadd, 1) := by decide +kernel
theorem dX6_tells_42 : decode cX6_tells 42 = .ok (.aload_n 0, 1) := by decide +kernel
theorem dX6_tells_43 : decode cX6_tells 43 = .ok (.getfield 13, 3) := by decide +kernel
theorem dX6_tells_46 : decode cX6_tells 46 = .ok (.bipush 19, 2) := by decide +kernel
theorem dX6_tells_48 : decode cX6_tells 48 = .ok (.iload_n 1, 1) := by decide +kernel
theorem dX6_tells_49 : decode cX6_tells 49 = .ok (.iadd, 1) := by decide +kernel
theorem dX6_tells_50 : decode cX6_tells 50 = .ok (.iaload, 1) := by decide +kernel
theorem dX6_tells_51 : decode cX6_tells 51 = .ok (.iconst 1, 1) := by decide +kernel
theorem dX6_tells_52 : decode cX6_tells 52 = .ok (.aload_n 0, 1) := by decide +kernel
theorem dX6_tells_53 : decode cX6_tells 53 = .ok (.getfield 13, 3) := by decide +kernel
theorem dX6_tells_56 : decode cX6_tells 56 = .ok (.iconst 0, 1) := by decide +kernel
theorem dX6_tells_57 : decode cX6_tells 57 = .ok (.iaload, 1) := by decide +kernel
theorem dX6_tells_58 : decode cX6_tells 58 = .ok (.ishl, 1) := by decide +kernel
theorem dX6_tells_59 : decode cX6_tells 59 = .ok (.iconst 1, 1) := by decide +kernel
theorem dX6_tells_60 : decode cX6_tells 60 = .ok (.isub, 1) := by decide +kernel
theorem dX6_tells_61 : decode cX6_tells 61 = .ok (.iand, 1) := by decide +kernel
theorem dX6_tells_62 : decode cX6_tells 62 = .ok (.iconst 1, 1) := by decide +kernel
theorem dX6_tells_63 : decode cX6_tells 63 = .ok (.iload_n 1, 1) := by decide +kernel
theorem dX6_tells_64 : decode cX6_tells 64 = .ok (.ishl, 1) := by decide +kernel
theorem dX6_tells_65 : decode cX6_tells 65 = .ok (.iconst (-1), 1) := by decide +kernel
theorem dX6_tells_66 : decode cX6_tells 66 = .ok (.ixor, 1) := by decide +kernel
theorem dX6_tells_67 : decode cX6_tells 67 = .ok (.iand, 1) := by decide +kernel
theorem dX6_tells_68 : decode cX6_tells 68 = .ok (.iastore, 1) := by decide +kernel
theorem dX6_tells_69 : decode cX6_tells 69 = .ok (.iinc 1 1, 3) := by decide +kernel
theorem dX6_tells_72 : decode cX6_tells 72 = .ok (.goto (-44), 3) := by decide +kernel
theorem dX6_tells_75 : decode cX6_tells 75 = .ok (.iconst 0, 1) := by decide +kernel
theorem dX6_tells_76 : decode cX6_tells 76 = .ok (.istore_n 1, 1) := by decide +kernel
theorem dX6_tells_77 : decode cX6_tells 77 = .ok (.iload_n 1, 1) := by decide +kernel
theorem dX6_tells_78 : decode cX6_tells 78 = .ok (.bipush 18, 2) := by decide +kernel
theorem dX6_tells_80 : decode cX6_tells 80 = .ok (.if_icmp .ge 30, 3) := by decide +kernel
theorem dX6_tells_83 : decode cX6_tells 83 = .ok (.aload_n 0, 1) := by decide +kernel
theorem dX6_tells_84 : decode cX6_tells 84 = .ok (.getfield 19, 3) := by decide +kernel
theorem dX6_tells_87 : decode cX6_tells 87 = .ok (.iload_n 1, 1) := by decide +kernel
theorem dX6_tells_88 : decode cX6_tells 88 = .ok (.iload_n 1, 1) := by decide +kernel
theorem dX6_tells_89 : decode cX6_tells 89 = .ok (.iconst 2, 1) := by decide +kernel
theorem dX6_tells_90 : decode cX6_tells 90 = .ok (.bipush 9, 2) := by decide +kernel
theorem dX6_tells_92 : decode cX6_tells 92 = .ok (.invokestatic 52, 3) := by decide +kernel
theorem dX6_tells_95 : decode cX6_tells 95 = .ok (.ifCond .eq 7, 3) := by decide +kernel
theorem dX6_tells_98 : decode cX6_tells 98 = .ok (.iconst (-1), 1) := by decide +kernel
theorem dX6_tells_99 : decode cX6_tells 99 = .ok (.goto 4, 3) := by decide +kernel
theorem dX6_tells_102 : decode cX6_tells 102 = .ok (.iconst 0, 1) := by decide +kernel
theorem dX6_tells_103 : decode cX6_tells 103 = .ok (.iastore, 1) := by decide +kernel
theorem dX6_tells_104 : decode cX6_tells 104 = .ok (.iinc 1 1, 3) := by decide +kernel
theorem dX6_tells_107 : decode cX6_tells 107 = .ok (.goto (-30), 3) := by decide +kernel
theorem dX6_tells_110 : decode cX6_tells 110 = .ok (.aload_n 0, 1) := by decide +kernel
theorem dX6_tells_111 : decode cX6_tells 111 = .ok (.iconst 0, 1) := by decide +kernel
theorem dX6_tells_112 : decode cX6_tells 112 = .ok (.putfield 92, 3) := by decide +kernel
theorem dX6_tells_115 : decode cX6_tells 115 = .ok (.aload_n 0, 1) := by decide +kernel
theorem dX6_tells_116 : decode cX6_tells 116 = .ok (.getfield 28, 3) := by decide +kernel
theorem dX6_tells_119 : decode cX6_tells 119 = .ok (.iconst 0, 1) := by decide +kernel
theorem dX6_tells_120 : decode cX6_tells 120 = .ok (.iconst 0, 1) := by decide +kernel
theorem dX6_tells_121 : decode cX6_tells 121 = .ok (.bastore, 1) := by decide +kernel
theorem dX6_tells_122 : decode cX6_tells 122 = .ok (.aload_n 0, 1) := by decide +kernel
theorem dX6_tells_123 : decode cX6_tells 123 = .ok (.getfield 28, 3) := by decide +kernel
theorem dX6_tells_126 : decode cX6_tells 126 = .ok (.iconst 1, 1) := by decide +kernel
theorem dX6_tells_127 : decode cX6_tells 127 = .ok (.iconst 0, 1) := by decide +kernel
theorem dX6_tells_128 : decode cX6_tells 128 = .ok (.bastore, 1) := by decide +kernel
theorem dX6_tells_129 : decode cX6_tells 129 = .ok (.return_, 1) := by decide +kernel
theorem dX6_crew_0 : decode cX6_crew 0 = .ok (.aload_n 0, 1) := by decide +kernel
theorem dX6_crew_1 : decode cX6_crew 1 = .ok (.invokevirtual 45, 3) := by decide +kernel
theorem dX6_crew_4 : decode cX6_crew 4 = .ok (.ifCond .ne 11, 3) := by decide +kernel
theorem dX6_crew_7 : decode cX6_crew 7 = .ok (.bipush (-10), 2) := by decide +kernel
theorem dX6_crew_9 : decode cX6_crew 9 = .ok (.aload_n 0, 1) := by decide +kernel
theorem dX6_crew_10 : decode cX6_crew 10 = .ok (.getfield 67, 3) := by decide +kernel
theorem dX6_crew_13 : decode cX6_crew 13 = .ok (.isub, 1) := by decide +kernel
theorem dX6_crew_14 : decode cX6_crew 14 = .ok (.ireturn, 1) := by decide +kernel
theorem dX6_crew_15 : decode cX6_crew 15 = .ok (.aload_n 0, 1) := by decide +kernel
theorem dX6_crew_16 : decode cX6_crew 16 = .ok (.invokevirtual 49, 3) := by decide +kernel
theorem dX6_crew_19 : decode cX6_crew 19 = .ok (.aload_n 0, 1) := by decide +kernel
theorem dX6_crew_20 : decode cX6_crew 20 = .ok (.iconst 0, 1) := by decide +kernel
theorem dX6_crew_21 : decode cX6_crew 21 = .ok (.putfield 56, 3) := by decide +kernel
theorem dX6_crew_24 : decode cX6_crew 24 = .ok (.aload_n 0, 1) := by decide +kernel
theorem dX6_crew_25 : decode cX6_crew 25 = .ok (.getfield 13, 3) := by decide +kernel
theorem dX6_crew_28 : decode cX6_crew 28 = .ok (.iconst 3, 1) := by decide +kernel
theorem dX6_crew_29 : decode cX6_crew 29 = .ok (.iaload, 1) := by decide +kernel
theorem dX6_crew_30 : decode cX6_crew 30 = .ok (.ireturn, 1) := by decide +kernel
theorem dX6_seatOf_0 : decode cX6_seatOf 0 = .ok (.bipush (-9), 2) := by decide +kernel
theorem dX6_seatOf_2 : decode cX6_seatOf 2 = .ok (.istore_n 2, 1) := by decide +kernel
theorem dX6_seatOf_3 : decode cX6_seatOf 3 = .ok (.iconst 0, 1) := by decide +kernel
theorem dX6_seatOf_4 : decode cX6_seatOf 4 = .ok (.istore_n 3, 1) := by decide +kernel
theorem dX6_seatOf_5 : decode cX6_seatOf 5 = .ok (.iload_n 3, 1) := by decide +kernel
theorem dX6_seatOf_6 : decode cX6_seatOf 6 = .ok (.bipush 8, 2) := by decide +kernel
theorem dX6_seatOf_8 : decode cX6_seatOf 8 = .ok (.if_icmp .ge 27, 3) := by decide +kernel
theorem dX6_seatOf_11 : decode cX6_seatOf 11 = .ok (.aload_n 0, 1) := by decide +kernel
theorem dX6_seatOf_12 : decode cX6_seatOf 12 = .ok (.getfield 19, 3) := by decide +kernel
theorem dX6_seatOf_15 : decode cX6_seatOf 15 = .ok (.iconst 2, 1) := by decide +kernel
theorem dX6_seatOf_16 : decode cX6_seatOf 16 = .ok (.iload_n 3, 1) := by decide +kernel
theorem dX6_seatOf_17 : decode cX6_seatOf 17 = .ok (.iadd, 1) := by decide +kernel
theorem dX6_seatOf_18 : decode cX6_seatOf 18 = .ok (.iaload, 1) := by decide +kernel
theorem dX6_seatOf_19 : decode cX6_seatOf 19 = .ok (.iload_n 1, 1) := by decide +kernel
theorem dX6_seatOf_20 : decode cX6_seatOf 20 = .ok (.if_icmp .ne 7, 3) := by decide +kernel
theorem dX6_seatOf_23 : decode cX6_seatOf 23 = .ok (.iload_n 3, 1) := by decide +kernel
theorem dX6_seatOf_24 : decode cX6_seatOf 24 = .ok (.goto 4, 3) := by decide +kernel
theorem dX6_seatOf_27 : decode cX6_seatOf 27 = .ok (.iload_n 2, 1) := by decide +kernel
theorem dX6_seatOf_28 : decode cX6_seatOf 28 = .ok (.istore_n 2, 1) := by decide +kernel
theorem dX6_seatOf_29 : decode cX6_seatOf 29 = .ok (.iinc 3 1, 3) := by decide +kernel
theorem dX6_seatOf_32 : decode cX6_seatOf 32 = .ok (.goto (-27), 3) := by decide +kernel
theorem dX6_seatOf_35 : decode cX6_seatOf 35 = .ok (.iload_n 2, 1) := by decide +kernel
theorem dX6_seatOf_36 : decode cX6_seatOf 36 = .ok (.ireturn, 1) := by decide +kernel
theorem dX6_would_0 : decode cX6_would 0 = .ok (.iload_n 2, 1) := by decide +kernel
theorem dX6_would_1 : decode cX6_would 1 = .ok (.iload_n 1, 1) := by decide +kernel
theorem dX6_would_2 : decode cX6_would 2 = .ok (.ishr, 1) := by decide +kernel
theorem dX6_would_3 : decode cX6_would 3 = .ok (.iconst 1, 1) := by decide +kernel
theorem dX6_would_4 : decode cX6_would 4 = .ok (.iand, 1) := by decide +kernel
theorem dX6_would_5 : decode cX6_would 5 = .ok (.ifCond .ne 49, 3) := by decide +kernel
theorem dX6_would_8 : decode cX6_would 8 = .ok (.iload_n 2, 1) := by decide +kernel
theorem dX6_would_9 : decode cX6_would 9 = .ok (.invokestatic 95, 3) := by decide +kernel
theorem dX6_would_12 : decode cX6_would 12 = .ok (.aload_n 0, 1) := by decide +kernel
theorem dX6_would_13 : decode cX6_would 13 = .ok (.getfield 13, 3) := by decide +kernel
theorem dX6_would_16 : decode cX6_would 16 = .ok (.bipush 12, 2) := by decide +kernel
theorem dX6_would_18 : decode cX6_would 18 = .ok (.iload_n 1, 1) := by decide +kernel
theorem dX6_would_19 : decode cX6_would 19 = .ok (.iadd, 1) := by decide +kernel
theorem dX6_would_20 : decode cX6_would 20 = .ok (.iaload, 1) := by decide +kernel
theorem dX6_would_21 : decode cX6_would 21 = .ok (.if_icmp .lt 33, 3) := by decide +kernel
theorem dX6_would_24 : decode cX6_would 24 = .ok (.aload_n 0, 1) := by decide +kernel
theorem dX6_would_25 : decode cX6_would 25 = .ok (.getfield 13, 3) := by decide +kernel
theorem dX6_would_28 : decode cX6_would 28 = .ok (.bipush 12, 2) := by decide +kernel
theorem dX6_would_30 : decode cX6_would 30 = .ok (.iload_n 1, 1) := by decide +kernel
theorem dX6_would_31 : decode cX6_would 31 = .ok (.iadd, 1) := by decide +kernel
theorem dX6_would_32 : decode cX6_would 32 = .ok (.iaload, 1) := by decide +kernel
theorem dX6_would_33 : decode cX6_would 33 = .ok (.ifCond .eq 17, 3) := by decide +kernel
theorem dX6_would_36 : decode cX6_would 36 = .ok (.aload_n 0, 1) := by decide +kernel
theorem dX6_would_37 : decode cX6_would 37 = .ok (.getfield 13, 3) := by decide +kernel
theorem dX6_would_40 : decode cX6_would 40 = .ok (.bipush 19, 2) := by decide +kernel
theorem dX6_would_42 : decode cX6_would 42 = .ok (.iload_n 1, 1) := by decide +kernel
theorem dX6_would_43 : decode cX6_would 43 = .ok (.iadd, 1) := by decide +kernel
theorem dX6_would_44 : decode cX6_would 44 = .ok (.iaload, 1) := by decide +kernel
theorem dX6_would_45 : decode cX6_would 45 = .ok (.iload_n 2, 1) := by decide +kernel
theorem dX6_would_46 : decode cX6_would 46 = .ok (.iand, 1) := by decide +kernel
theorem dX6_would_47 : decode cX6_would 47 = .ok (.ifCond .eq 7, 3) := by decide +kernel
theorem dX6_would_50 : decode cX6_would 50 = .ok (.iconst 1, 1) := by decide +kernel
theorem dX6_would_51 : decode cX6_would 51 = .ok (.goto 4, 3) := by decide +kernel
theorem dX6_would_54 : decode cX6_would 54 = .ok (.iconst 0, 1) := by decide +kernel
theorem dX6_would_55 : decode cX6_would 55 = .ok (.ireturn, 1) := by decide +kernel
theorem dX6_wouldNow_0 : decode cX6_wouldNow 0 = .ok (.aload_n 0, 1) := by decide +kernel
theorem dX6_wouldNow_1 : decode cX6_wouldNow 1 = .ok (.iload_n 1, 1) := by decide +kernel
theorem dX6_wouldNow_2 : decode cX6_wouldNow 2 = .ok (.aload_n 0, 1) := by decide +kernel
theorem dX6_wouldNow_3 : decode cX6_wouldNow 3 = .ok (.getfield 19, 3) := by decide +kernel
theorem dX6_wouldNow_6 : decode cX6_wouldNow 6 = .ok (.iconst 1, 1) := by decide +kernel
theorem dX6_wouldNow_7 : decode cX6_wouldNow 7 = .ok (.iaload, 1) := by decide +kernel
theorem dX6_wouldNow_8 : decode cX6_wouldNow 8 = .ok (.invokevirtual 98, 3) := by decide +kernel
theorem dX6_wouldNow_11 : decode cX6_wouldNow 11 = .ok (.ifCond .eq 26, 3) := by decide +kernel
theorem dX6_wouldNow_14 : decode cX6_wouldNow 14 = .ok (.aload_n 0, 1) := by decide +kernel
theorem dX6_wouldNow_15 : decode cX6_wouldNow 15 = .ok (.getfield 13, 3) := by decide +kernel
theorem dX6_wouldNow_18 : decode cX6_wouldNow 18 = .ok (.iconst 5, 1) := by decide +kernel
theorem dX6_wouldNow_19 : decode cX6_wouldNow 19 = .ok (.iload_n 1, 1) := by decide +kernel
theorem dX6_wouldNow_20 : decode cX6_wouldNow 20 = .ok (.iadd, 1) := by decide +kernel
theorem dX6_wouldNow_21 : decode cX6_wouldNow 21 = .ok (.iaload, 1) := by decide +kernel
theorem dX6_wouldNow_22 : decode cX6_wouldNow 22 = .ok (.aload_n 0, 1) := by decide +kernel
theorem dX6_wouldNow_23 : decode cX6_wouldNow 23 = .ok (.getfield 19, 3) := by decide +kernel
theorem dX6_wouldNow_26 : decode cX6_wouldNow 26 = .ok (.iconst 0, 1) := by decide +kernel
theorem dX6_wouldNow_27 : decode cX6_wouldNow 27 = .ok (.iaload, 1) := by decide +kernel
theorem dX6_wouldNow_28 : decode cX6_wouldNow 28 = .ok (.iconst 3, 1) := by decide +kernel
theorem dX6_wouldNow_29 : decode cX6_wouldNow 29 = .ok (.irem, 1) := by decide +kernel
theorem dX6_wouldNow_30 : decode cX6_wouldNow 30 = .ok (.if_icmp .eq 7, 3) := by decide +kernel
theorem dX6_wouldNow_33 : decode cX6_wouldNow 33 = .ok (.iconst 1, 1) := by decide +kernel
theorem dX6_wouldNow_34 : decode cX6_wouldNow 34 = .ok (.goto 4, 3) := by decide +kernel
theorem dX6_wouldNow_37 : decode cX6_wouldNow 37 = .ok (.iconst 0, 1) := by decide +kernel
theorem dX6_wouldNow_38 : decode cX6_wouldNow 38 = .ok (.ireturn, 1) := by decide +kernel
theorem dX6_sailor_0 : decode cX6_sailor 0 = .ok (.aload_n 0, 1) := by decide +kernel
theorem dX6_sailor_1 : decode cX6_sailor 1 = .ok (.iload_n 1, 1) := by decide +kernel
theorem dX6_sailor_2 : decode cX6_sailor 2 = .ok (.invokevirtual 102, 3) := by decide +kernel
theorem dX6_sailor_5 : decode cX6_sailor 5 = .ok (.ifCond .ne 5, 3) := by decide +kernel
theorem dX6_sailor_8 : decode cX6_sailor 8 = .ok (.iconst (-1), 1) := by decide +kernel
theorem dX6_sailor_9 : decode cX6_sailor 9 = .ok (.ireturn, 1) := by decide +kernel
theorem dX6_sailor_10 : decode cX6_sailor 10 = .ok (.iload_n 2, 1) := by decide +kernel
theorem dX6_sailor_11 : decode cX6_sailor 11 = .ok (.tableswitch 97 0 5 #[37, 46, 56, 66, 77, 83], 37) := by decide +kernel
theorem dX6_sailor_48 : decode cX6_sailor 48 = .ok (.aload_n 0, 1) := by decide +kernel
theorem dX6_sailor_49 : decode cX6_sailor 49 = .ok (.getfield 13, 3) := by decide +kernel
theorem dX6_sailor_52 : decode cX6_sailor 52 = .ok (.iconst 5, 1) := by decide +kernel
theorem dX6_sailor_53 : decode cX6_sailor 53 = .ok (.iload_n 1, 1) := by decide +kernel
theorem dX6_sailor_54 : decode cX6_sailor 54 = .ok (.iadd, 1) := by decide +kernel
theorem dX6_sailor_55 : decode cX6_sailor 55 = .ok (.iaload, 1) := by decide +kernel
theorem dX6_sailor_56 : decode cX6_sailor 56 = .ok (.ireturn, 1) := by decide +kernel
theorem dX6_sailor_57 : decode cX6_sailor 57 = .ok (.aload_n 0, 1) := by decide +kernel
theorem dX6_sailor_58 : decode cX6_sailor 58 = .ok (.getfield 13, 3) := by decide +kernel
theorem dX6_sailor_61 : decode cX6_sailor 61 = .ok (.bipush 12, 2) := by decide +kernel
theorem dX6_sailor_63 : decode cX6_sailor 63 = .ok (.iload_n 1, 1) := by decide +kernel
theorem dX6_sailor_64 : decode cX6_sailor 64 = .ok (.iadd, 1) := by decide +kernel
theorem dX6_sailor_65 : decode cX6_sailor 65 = .ok (.iaload, 1) := by decide +kernel
theorem dX6_sailor_66 : decode cX6_sailor 66 = .ok (.ireturn, 1) := by decide +kernel
theorem dX6_sailor_67 : decode cX6_sailor 67 = .ok (.aload_n 0, 1) := by decide +kernel
theorem dX6_sailor_68 : decode cX6_sailor 68 = .ok (.getfield 13, 3) := by decide +kernel
theorem dX6_sailor_71 : decode cX6_sailor 71 = .ok (.bipush 19, 2) := by decide +kernel
theorem dX6_sailor_73 : decode cX6_sailor 73 = .ok (.iload_n 1, 1) := by decide +kernel
theorem dX6_sailor_74 : decode cX6_sailor 74 = .ok (.iadd, 1) := by decide +kernel
theorem dX6_sailor_75 : decode cX6_sailor 75 = .ok (.iaload, 1) := by decide +kernel
theorem dX6_sailor_76 : decode cX6_sailor 76 = .ok (.ireturn, 1) := by decide +kernel
theorem dX6_sailor_77 : decode cX6_sailor 77 = .ok (.aload_n 0, 1) := by decide +kernel
theorem dX6_sailor_78 : decode cX6_sailor 78 = .ok (.getfield 19, 3) := by decide +kernel
theorem dX6_sailor_81 : decode cX6_sailor 81 = .ok (.iconst 1, 1) := by decide +kernel
theorem dX6_sailor_82 : decode cX6_sailor 82 = .ok (.iaload, 1) := by decide +kernel
theorem dX6_sailor_83 : decode cX6_sailor 83 = .ok (.iload_n 1, 1) := by decide +kernel
theorem dX6_sailor_84 : decode cX6_sailor 84 = .ok (.ishr, 1) := by decide +kernel
theorem dX6_sailor_85 : decode cX6_sailor 85 = .ok (.iconst 1, 1) := by decide +kernel
theorem dX6_sailor_86 : decode cX6_sailor 86 = .ok (.iand, 1) := by decide +kernel
theorem dX6_sailor_87 : decode cX6_sailor 87 = .ok (.ireturn, 1) := by decide +kernel
theorem dX6_sailor_88 : decode cX6_sailor 88 = .ok (.aload_n 0, 1) := by decide +kernel
theorem dX6_sailor_89 : decode cX6_sailor 89 = .ok (.iload_n 1, 1) := by decide +kernel
theorem dX6_sailor_90 : decode cX6_sailor 90 = .ok (.invokevirtual 105, 3) := by decide +kernel
theorem dX6_sailor_93 : decode cX6_sailor 93 = .ok (.ireturn, 1) := by decide +kernel
theorem dX6_sailor_94 : decode cX6_sailor 94 = .ok (.aload_n 0, 1) := by decide +kernel
theorem dX6_sailor_95 : decode cX6_sailor 95 = .ok (.iload_n 1, 1) := by decide +kernel
theorem dX6_sailor_96 : decode cX6_sailor 96 = .ok (.invokevirtual 108, 3) := by decide +kernel
theorem dX6_sailor_99 : decode cX6_sailor 99 = .ok (.ifCond .eq 7, 3) := by decide +kernel
theorem dX6_sailor_102 : decode cX6_sailor 102 = .ok (.iconst 1, 1) := by decide +kernel
theorem dX6_sailor_103 : decode cX6_sailor 103 = .ok (.goto 4, 3) := by decide +kernel
theorem dX6_sailor_106 : decode cX6_sailor 106 = .ok (.iconst 0, 1) := by decide +kernel
theorem dX6_sailor_107 : decode cX6_sailor 107 = .ok (.ireturn, 1) := by decide +kernel
theorem dX6_sailor_108 : decode cX6_sailor 108 = .ok (.iconst (-1), 1) := by decide +kernel
theorem dX6_sailor_109 : decode cX6_sailor 109 = .ok (.ireturn, 1) := by decide +kernel
theorem dX6_seat_0 : decode cX6_seat 0 = .ok (.aload_n 0, 1) := by decide +kernel
theorem dX6_seat_1 : decode cX6_seat 1 = .ok (.iload_n 1, 1) := by decide +kernel
theorem dX6_seat_2 : decode cX6_seat 2 = .ok (.invokevirtual 111, 3) := by decide +kernel
theorem dX6_seat_5 : decode cX6_seat 5 = .ok (.ifCond .eq 12, 3) := by decide +kernel
theorem dX6_seat_8 : decode cX6_seat 8 = .ok (.iload_n 2, 1) := by decide +kernel
theorem dX6_seat_9 : decode cX6_seat 9 = .ok (.iconst 0, 1) := by decide +kernel
theorem dX6_seat_10 : decode cX6_seat 10 = .ok (.iconst 1, 1) := by decide +kernel
theorem dX6_seat_11 : decode cX6_seat 11 = .ok (.invokestatic 52, 3) := by decide +kernel
theorem dX6_seat_14 : decode cX6_seat 14 = .ok (.ifCond .ne 5, 3) := by decide +kernel
theorem dX6_seat_17 : decode cX6_seat 17 = .ok (.iconst (-1), 1) := by decide +kernel
theorem dX6_seat_18 : decode cX6_seat 18 = .ok (.ireturn, 1) := by decide +kernel
theorem dX6_seat_19 : decode cX6_seat 19 = .ok (.iload_n 2, 1) := by decide +kernel
theorem dX6_seat_20 : decode cX6_seat 20 = .ok (.iconst 1, 1) := by decide +kernel
theorem dX6_seat_21 : decode cX6_seat 21 = .ok (.if_icmp .ne 15, 3) := by decide +kernel
theorem dX6_seat_24 : decode cX6_seat 24 = .ok (.aload_n 0, 1) := by decide +kernel
theorem dX6_seat_25 : decode cX6_seat 25 = .ok (.getfield 19, 3) := by decide +kernel
theorem dX6_seat_28 : decode cX6_seat 28 = .ok (.bipush 10, 2) := by decide +kernel
theorem dX6_seat_30 : decode cX6_seat 30 = .ok (.iload_n 1, 1) := by decide +kernel
theorem dX6_seat_31 : decode cX6_seat 31 = .ok (.iadd, 1) := by decide +kernel
theorem dX6_seat_32 : decode cX6_seat 32 = .ok (.iaload, 1) := by decide +kernel
theorem dX6_seat_33 : decode cX6_seat 33 = .ok (.goto 27, 3) := by decide +kernel
theorem dX6_seat_36 : decode cX6_seat 36 = .ok (.aload_n 0, 1) := by decide +kernel
theorem dX6_seat_37 : decode cX6_seat 37 = .ok (.getfield 19, 3) := by decide +kernel
theorem dX6_seat_40 : decode cX6_seat 40 = .ok (.iconst 2, 1) := by decide +kernel
theorem dX6_seat_41 : decode cX6_seat 41 = .ok (.iload_n 1, 1) := by decide +kernel
theorem dX6_seat_42 : decode cX6_seat 42 = .ok (.iadd, 1) := by decide +kernel
theorem dX6_seat_43 : decode cX6_seat 43 = .ok (.iaload, 1) := by decide +kernel
theorem dX6_seat_44 : decode cX6_seat 44 = .ok (.ifCond .ge 8, 3) := by decide +kernel
theorem dX6_seat_47 : decode cX6_seat 47 = .ok (.bipush (-9), 2) := by decide +kernel
theorem dX6_seat_49 : decode cX6_seat 49 = .ok (.goto 11, 3) := by decide +kernel
theorem dX6_seat_52 : decode cX6_seat 52 = .ok (.aload_n 0, 1) := by decide +kernel
theorem dX6_seat_53 : decode cX6_seat 53 = .ok (.getfield 19, 3) := by decide +kernel
theorem dX6_seat_56 : decode cX6_seat 56 = .ok (.iconst 2, 1) := by decide +kernel
theorem dX6_seat_57 : decode cX6_seat 57 = .ok (.iload_n 1, 1) := by decide +kernel
theorem dX6_seat_58 : decode cX6_seat 58 = .ok (.iadd, 1) := by decide +kernel
theorem dX6_seat_59 : decode cX6_seat 59 = .ok (.iaload, 1) := by decide +kernel
theorem dX6_seat_60 : decode cX6_seat 60 = .ok (.ireturn, 1) := by decide +kernel
theorem dX6_there_0 : decode cX6_there 0 = .ok (.iconst 0, 1) := by decide +kernel
theorem dX6_there_1 : decode cX6_there 1 = .ok (.istore_n 1, 1) := by decide +kernel
theorem dX6_there_2 : decode cX6_there 2 = .ok (.iconst 0, 1) := by decide +kernel
theorem dX6_there_3 : decode cX6_there 3 = .ok (.istore_n 2, 1) := by decide +kernel
theorem dX6_there_4 : decode cX6_there 4 = .ok (.iload_n 2, 1) := by decide +kernel
theorem dX6_there_5 : decode cX6_there 5 = .ok (.bipush 8, 2) := by decide +kernel
theorem dX6_there_7 : decode cX6_there 7 = .ok (.if_icmp .ge 37, 3) := by decide +kernel
theorem dX6_there_10 : decode cX6_there 10 = .ok (.iload_n 1, 1) := by decide +kernel
theorem dX6_there_11 : decode cX6_there 11 = .ok (.aload_n 0, 1) := by decide +kernel
theorem dX6_there_12 : decode cX6_there 12 = .ok (.getfield 19, 3) := by decide +kernel
theorem dX6_there_15 : decode cX6_there 15 = .ok (.iconst 2, 1) := by decide +kernel
theorem dX6_there_16 : decode cX6_there 16 = .ok (.iload_n 2, 1) := by decide +kernel
theorem dX6_there_17 : decode cX6_there 17 = .ok (.iadd, 1) := by decide +kernel
theorem dX6_there_18 : decode cX6_there 18 = .ok (.iaload, 1) := by decide +kernel
theorem dX6_there_19 : decode cX6_there 19 = .ok (.ifCond .ge 7, 3) := by decide +kernel
theorem dX6_there_22 : decode cX6_there 22 = .ok (.iconst 0, 1) := by decide +kernel
theorem dX6_there_23 : decode cX6_there 23 = .ok (.goto 13, 3) := by decide +kernel
theorem dX6_there_26 : decode cX6_there 26 = .ok (.iconst 1, 1) := by decide +kernel
theorem dX6_there_27 : decode cX6_there 27 = .ok (.aload_n 0, 1) := by decide +kernel
theorem dX6_there_28 : decode cX6_there 28 = .ok (.getfield 19, 3) := by decide +kernel
theorem dX6_there_31 : decode cX6_there 31 = .ok (.iconst 2, 1) := by decide +kernel
theorem dX6_there_32 : decode cX6_there 32 = .ok (.iload_n 2, 1) := by decide +kernel
theorem dX6_there_33 : decode cX6_there 33 = .ok (.iadd, 1) := by decide +kernel
theorem dX6_there_34 : decode cX6_there 34 = .ok (.iaload, 1) := by decide +kernel
theorem dX6_there_35 : decode cX6_there 35 = .ok (.ishl, 1) := by decide +kernel
theorem dX6_there_36 : decode cX6_there 36 = .ok (.ior, 1) := by decide +kernel
theorem dX6_there_37 : decode cX6_there 37 = .ok (.istore_n 1, 1) := by decide +kernel
theorem dX6_there_38 : decode cX6_there 38 = .ok (.iinc 2 1, 3) := by decide +kernel
theorem dX6_there_41 : decode cX6_there 41 = .ok (.goto (-37), 3) := by decide +kernel
theorem dX6_there_44 : decode cX6_there 44 = .ok (.iload_n 1, 1) := by decide +kernel
theorem dX6_there_45 : decode cX6_there 45 = .ok (.ireturn, 1) := by decide +kernel
theorem dX6_now_0 : decode cX6_now 0 = .ok (.iconst 0, 1) := by decide +kernel
theorem dX6_now_1 : decode cX6_now 1 = .ok (.istore_n 2, 1) := by decide +kernel
theorem dX6_now_2 : decode cX6_now 2 = .ok (.iconst 0, 1) := by decide +kernel
theorem dX6_now_3 : decode cX6_now 3 = .ok (.istore_n 3, 1) := by decide +kernel
theorem dX6_now_4 : decode cX6_now 4 = .ok (.iload_n 3, 1) := by decide +kernel
theorem dX6_now_5 : decode cX6_now 5 = .ok (.aload_n 0, 1) := by decide +kernel
theorem dX6_now_6 : decode cX6_now 6 = .ok (.getfield 13, 3) := by decide +kernel
theorem dX6_now_9 : decode cX6_now 9 = .ok (.iconst 0, 1) := by decide +kernel
theorem dX6_now_10 : decode cX6_now 10 = .ok (.iaload, 1) := by decide +kernel
theorem dX6_now_11 : decode cX6_now 11 = .ok (.if_icmp .ge 27, 3) := by decide +kernel
theorem dX6_now_14 : decode cX6_now 14 = .ok (.iload_n 2, 1) := by decide +kernel
theorem dX6_now_15 : decode cX6_now 15 = .ok (.aload_n 0, 1) := by decide +kernel
theorem dX6_now_16 : decode cX6_now 16 = .ok (.iload_n 3, 1) := by decide +kernel
theorem dX6_now_17 : decode cX6_now 17 = .ok (.invokevirtual 108, 3) := by decide +kernel
theorem dX6_now_20 : decode cX6_now 20 = .ok (.ifCond .eq 9, 3) := by decide +kernel
theorem dX6_now_23 : decode cX6_now 23 = .ok (.iconst 1, 1) := by decide +kernel
theorem dX6_now_24 : decode cX6_now 24 = .ok (.iload_n 3, 1) := by decide +kernel
theorem dX6_now_25 : decode cX6_now 25 = .ok (.ishl, 1) := by decide +kernel
theorem dX6_now_26 : decode cX6_now 26 = .ok (.goto 4, 3) := by decide +kernel
theorem dX6_now_29 : decode cX6_now 29 = .ok (.iconst 0, 1) := by decide +kernel
theorem dX6_now_30 : decode cX6_now 30 = .ok (.ior, 1) := by decide +kernel
theorem dX6_now_31 : decode cX6_now 31 = .ok (.istore_n 2, 1) := by decide +kernel
theorem dX6_now_32 : decode cX6_now 32 = .ok (.iinc 3 1, 3) := by decide +kernel
theorem dX6_now_35 : decode cX6_now 35 = .ok (.goto (-31), 3) := by decide +kernel
theorem dX6_now_38 : decode cX6_now 38 = .ok (.iload_n 1, 1) := by decide +kernel
theorem dX6_now_39 : decode cX6_now 39 = .ok (.tableswitch 59 0 4 #[33, 40, 47, 52, 54], 33) := by decide +kernel
theorem dX6_now_72 : decode cX6_now 72 = .ok (.aload_n 0, 1) := by decide +kernel
theorem dX6_now_73 : decode cX6_now 73 = .ok (.getfield 19, 3) := by decide +kernel
theorem dX6_now_76 : decode cX6_now 76 = .ok (.iconst 0, 1) := by decide +kernel
theorem dX6_now_77 : decode cX6_now 77 = .ok (.iaload, 1) := by decide +kernel
theorem dX6_now_78 : decode cX6_now 78 = .ok (.ireturn, 1) := by decide +kernel
theorem dX6_now_79 : decode cX6_now 79 = .ok (.aload_n 0, 1) := by decide +kernel
theorem dX6_now_80 : decode cX6_now 80 = .ok (.getfield 19, 3) := by decide +kernel
theorem dX6_now_83 : decode cX6_now 83 = .ok (.iconst 1, 1) := by decide +kernel
theorem dX6_now_84 : decode cX6_now 84 = .ok (.iaload, 1) := by decide +kernel
theorem dX6_now_85 : decode cX6_now 85 = .ok (.ireturn, 1) := by decide +kernel
theorem dX6_now_86 : decode cX6_now 86 = .ok (.aload_n 0, 1) := by decide +kernel
theorem dX6_now_87 : decode cX6_now 87 = .ok (.invokevirtual 114, 3) := by decide +kernel
theorem dX6_now_90 : decode cX6_now 90 = .ok (.ireturn, 1) := by decide +kernel
theorem dX6_now_91 : decode cX6_now 91 = .ok (.iload_n 2, 1) := by decide +kernel
theorem dX6_now_92 : decode cX6_now 92 = .ok (.ireturn, 1) := by decide +kernel
theorem dX6_now_93 : decode cX6_now 93 = .ok (.aload_n 0, 1) := by decide +kernel
theorem dX6_now_94 : decode cX6_now 94 = .ok (.getfield 92, 3) := by decide +kernel
theorem dX6_now_97 : decode cX6_now 97 = .ok (.ireturn, 1) := by decide +kernel
theorem dX6_now_98 : decode cX6_now 98 = .ok (.iconst (-1), 1) := by decide +kernel
theorem dX6_now_99 : decode cX6_now 99 = .ok (.ireturn, 1) := by decide +kernel
theorem dX6_keeps_0 : decode cX6_keeps 0 = .ok (.aload_n 0, 1) := by decide +kernel
theorem dX6_keeps_1 : decode cX6_keeps 1 = .ok (.getfield 92, 3) := by decide +kernel
theorem dX6_keeps_4 : decode cX6_keeps 4 = .ok (.bipush 10, 2) := by decide +kernel
theorem dX6_keeps_6 : decode cX6_keeps 6 = .ok (.if_icmp .ne 43, 3) := by decide +kernel
theorem dX6_keeps_9 : decode cX6_keeps 9 = .ok (.iconst 0, 1) := by decide +kernel
theorem dX6_keeps_10 : decode cX6_keeps 10 = .ok (.istore_n 1, 1) := by decide +kernel
theorem dX6_keeps_11 : decode cX6_keeps 11 = .ok (.iload_n 1, 1) := by decide +kernel
theorem dX6_keeps_12 : decode cX6_keeps 12 = .ok (.sipush 162, 3) := by decide +kernel
theorem dX6_keeps_15 : decode cX6_keeps 15 = .ok (.if_icmp .ge 24, 3) := by decide +kernel
theorem dX6_keeps_18 : decode cX6_keeps 18 = .ok (.aload_n 0, 1) := by decide +kernel
theorem dX6_keeps_19 : decode cX6_keeps 19 = .ok (.getfield 22, 3) := by decide +kernel
theorem dX6_keeps_22 : decode cX6_keeps 22 = .ok (.iload_n 1, 1) := by decide +kernel
theorem dX6_keeps_23 : decode cX6_keeps 23 = .ok (.aload_n 0, 1) := by decide +kernel
theorem dX6_keeps_24 : decode cX6_keeps 24 = .ok (.getfield 22, 3) := by decide +kernel
theorem dX6_keeps_27 : decode cX6_keeps 27 = .ok (.iload_n 1, 1) := by decide +kernel
theorem dX6_keeps_28 : decode cX6_keeps 28 = .ok (.bipush 18, 2) := by decide +kernel
theorem dX6_keeps_30 : decode cX6_keeps 30 = .ok (.iadd, 1) := by decide +kernel
theorem dX6_keeps_31 : decode cX6_keeps 31 = .ok (.iaload, 1) := by decide +kernel
theorem dX6_keeps_32 : decode cX6_keeps 32 = .ok (.iastore, 1) := by decide +kernel
theorem dX6_keeps_33 : decode cX6_keeps 33 = .ok (.iinc 1 1, 3) := by decide +kernel
theorem dX6_keeps_36 : decode cX6_keeps 36 = .ok (.goto (-25), 3) := by decide +kernel
theorem dX6_keeps_39 : decode cX6_keeps 39 = .ok (.aload_n 0, 1) := by decide +kernel
theorem dX6_keeps_40 : decode cX6_keeps 40 = .ok (.dup, 1) := by decide +kernel
theorem dX6_keeps_41 : decode cX6_keeps 41 = .ok (.getfield 92, 3) := by decide +kernel
theorem dX6_keeps_44 : decode cX6_keeps 44 = .ok (.iconst 1, 1) := by decide +kernel
theorem dX6_keeps_45 : decode cX6_keeps 45 = .ok (.isub, 1) := by decide +kernel
theorem dX6_keeps_46 : decode cX6_keeps 46 = .ok (.putfield 92, 3) := by decide +kernel
theorem dX6_keeps_49 : decode cX6_keeps 49 = .ok (.iconst 0, 1) := by decide +kernel
theorem dX6_keeps_50 : decode cX6_keeps 50 = .ok (.istore_n 1, 1) := by decide +kernel
theorem dX6_keeps_51 : decode cX6_keeps 51 = .ok (.iload_n 1, 1) := by decide +kernel
theorem dX6_keeps_52 : decode cX6_keeps 52 = .ok (.bipush 18, 2) := by decide +kernel
theorem dX6_keeps_54 : decode cX6_keeps 54 = .ok (.if_icmp .ge 29, 3) := by decide +kernel
theorem dX6_keeps_57 : decode cX6_keeps 57 = .ok (.aload_n 0, 1) := by decide +kernel
theorem dX6_keeps_58 : decode cX6_keeps 58 = .ok (.getfield 22, 3) := by decide +kernel
theorem dX6_keeps_61 : decode cX6_keeps 61 = .ok (.bipush 18, 2) := by decide +kernel
theorem dX6_keeps_63 : decode cX6_keeps 63 = .ok (.aload_n 0, 1) := by decide +kernel
theorem dX6_keeps_64 : decode cX6_keeps 64 = .ok (.getfield 92, 3) := by decide +kernel
theorem dX6_keeps_67 : decode cX6_keeps 67 = .ok (.imul, 1) := by decide +kernel
theorem dX6_keeps_68 : decode cX6_keeps 68 = .ok (.iload_n 1, 1) := by decide +kernel
theorem dX6_keeps_69 : decode cX6_keeps 69 = .ok (.iadd, 1) := by decide +kernel
theorem dX6_keeps_70 : decode cX6_keeps 70 = .ok (.aload_n 0, 1) := by decide +kernel
theorem dX6_keeps_71 : decode cX6_keeps 71 = .ok (.getfield 19, 3) := by decide +kernel
theorem dX6_keeps_74 : decode cX6_keeps 74 = .ok (.iload_n 1, 1) := by decide +kernel
theorem dX6_keeps_75 : decode cX6_keeps 75 = .ok (.iaload, 1) := by decide +kernel
theorem dX6_keeps_76 : decode cX6_keeps 76 = .ok (.iastore, 1) := by decide +kernel
theorem dX6_keeps_77 : decode cX6_keeps 77 = .ok (.iinc 1 1, 3) := by decide +kernel
theorem dX6_keeps_80 : decode cX6_keeps 80 = .ok (.goto (-29), 3) := by decide +kernel
theorem dX6_keeps_83 : decode cX6_keeps 83 = .ok (.aload_n 0, 1) := by decide +kernel
theorem dX6_keeps_84 : decode cX6_keeps 84 = .ok (.dup, 1) := by decide +kernel
theorem dX6_keeps_85 : decode cX6_keeps 85 = .ok (.getfield 92, 3) := by decide +kernel
theorem dX6_keeps_88 : decode cX6_keeps 88 = .ok (.iconst 1, 1) := by decide +kernel
theorem dX6_keeps_89 : decode cX6_keeps 89 = .ok (.iadd, 1) := by decide +kernel
theorem dX6_keeps_90 : decode cX6_keeps 90 = .ok (.putfield 92, 3) := by decide +kernel
theorem dX6_keeps_93 : decode cX6_keeps 93 = .ok (.return_, 1) := by decide +kernel
theorem dX6_signs_0 : decode cX6_signs 0 = .ok (.aload_n 0, 1) := by decide +kernel
theorem dX6_signs_1 : decode cX6_signs 1 = .ok (.iload_n 1, 1) := by decide +kernel
theorem dX6_signs_2 : decode cX6_signs 2 = .ok (.invokevirtual 102, 3) := by decide +kernel
theorem dX6_signs_5 : decode cX6_signs 5 = .ok (.ifCond .eq 11, 3) := by decide +kernel
theorem dX6_signs_8 : decode cX6_signs 8 = .ok (.aload_n 0, 1) := by decide +kernel
theorem dX6_signs_9 : decode cX6_signs 9 = .ok (.iload_n 2, 1) := by decide +kernel
theorem dX6_signs_10 : decode cX6_signs 10 = .ok (.invokevirtual 111, 3) := by decide +kernel
theorem dX6_signs_13 : decode cX6_signs 13 = .ok (.ifCond .ne 5, 3) := by decide +kernel
theorem dX6_signs_16 : decode cX6_signs 16 = .ok (.iconst (-1), 1) := by decide +kernel
theorem dX6_signs_17 : decode cX6_signs 17 = .ok (.ireturn, 1) := by decide +kernel
theorem dX6_signs_18 : decode cX6_signs 18 = .ok (.aload_n 0, 1) := by decide +kernel
theorem dX6_signs_19 : decode cX6_signs 19 = .ok (.iload_n 1, 1) := by decide +kernel
theorem dX6_signs_20 : decode cX6_signs 20 = .ok (.invokevirtual 108, 3) := by decide +kernel
theorem dX6_signs_23 : decode cX6_signs 23 = .ok (.ifCond .eq 25, 3) := by decide +kernel
theorem dX6_signs_26 : decode cX6_signs 26 = .ok (.aload_n 0, 1) := by decide +kernel
theorem dX6_signs_27 : decode cX6_signs 27 = .ok (.getfield 19, 3) := by decide +kernel
theorem dX6_signs_30 : decode cX6_signs 30 = .ok (.iconst 2, 1) := by decide +kernel
theorem dX6_signs_31 : decode cX6_signs 31 = .ok (.iload_n 2, 1) := by decide +kernel
theorem dX6_signs_32 : decode cX6_signs 32 = .ok (.iadd, 1) := by decide +kernel
theorem dX6_signs_33 : decode cX6_signs 33 = .ok (.iaload, 1) := by decide +kernel
theorem dX6_signs_34 : decode cX6_signs 34 = .ok (.ifCond .ge 14, 3) := by decide +kernel
theorem dX6_signs_37 : decode cX6_signs 37 = .ok (.aload_n 0, 1) := by decide +kernel
theorem dX6_signs_38 : decode cX6_signs 38 = .ok (.getfield 19, 3) := by decide +kernel
theorem dX6_signs_41 : decode cX6_signs 41 = .ok (.iconst 0, 1) := by decide +kernel
theorem dX6_signs_42 : decode cX6_signs 42 = .ok (.iaload, 1) := by decide +kernel
theorem dX6_signs_43 : decode cX6_signs 43 = .ok (.bipush 99, 2) := by decide +kernel
theorem dX6_signs_45 : decode cX6_signs 45 = .ok (.if_icmp .ne 6, 3) := by decide +kernel
theorem dX6_signs_48 : decode cX6_signs 48 = .ok (.bipush (-2), 2) := by decide +kernel
theorem dX6_signs_50 : decode cX6_signs 50 = .ok (.ireturn, 1) := by decide +kernel
theorem dX6_signs_51 : decode cX6_signs 51 = .ok (.aload_n 0, 1) := by decide +kernel
theorem dX6_signs_52 : decode cX6_signs 52 = .ok (.invokevirtual 118, 3) := by decide +kernel
theorem dX6_signs_55 : decode cX6_signs 55 = .ok (.aload_n 0, 1) := by decide +kernel
theorem dX6_signs_56 : decode cX6_signs 56 = .ok (.getfield 19, 3) := by decide +kernel
theorem dX6_signs_59 : decode cX6_signs 59 = .ok (.iconst 2, 1) := by decide +kernel
theorem dX6_signs_60 : decode cX6_signs 60 = .ok (.iload_n 2, 1) := by decide +kernel
theorem dX6_signs_61 : decode cX6_signs 61 = .ok (.iadd, 1) := by decide +kernel
theorem dX6_signs_62 : decode cX6_signs 62 = .ok (.iload_n 1, 1) := by decide +kernel
theorem dX6_signs_63 : decode cX6_signs 63 = .ok (.iastore, 1) := by decide +kernel
theorem dX6_signs_64 : decode cX6_signs 64 = .ok (.aload_n 0, 1) := by decide +kernel
theorem dX6_signs_65 : decode cX6_signs 65 = .ok (.getfield 19, 3) := by decide +kernel
theorem dX6_signs_68 : decode cX6_signs 68 = .ok (.bipush 10, 2) := by decide +kernel
theorem dX6_signs_70 : decode cX6_signs 70 = .ok (.iload_n 2, 1) := by decide +kernel
theorem dX6_signs_71 : decode cX6_signs 71 = .ok (.iadd, 1) := by decide +kernel
theorem dX6_signs_72 : decode cX6_signs 72 = .ok (.aload_n 0, 1) := by decide +kernel
theorem dX6_signs_73 : decode cX6_signs 73 = .ok (.getfield 13, 3) := by decide +kernel
theorem dX6_signs_76 : decode cX6_signs 76 = .ok (.iconst 1, 1) := by decide +kernel
theorem dX6_signs_77 : decode cX6_signs 77 = .ok (.iaload, 1) := by decide +kernel
theorem dX6_signs_78 : decode cX6_signs 78 = .ok (.aload_n 0, 1) := by decide +kernel
theorem dX6_signs_79 : decode cX6_signs 79 = .ok (.getfield 19, 3) := by decide +kernel
theorem dX6_signs_82 : decode cX6_signs 82 = .ok (.iconst 1, 1) := by decide +kernel
theorem dX6_signs_83 : decode cX6_signs 83 = .ok (.iaload, 1) := by decide +kernel
theorem dX6_signs_84 : decode cX6_signs 84 = .ok (.invokestatic 95, 3) := by decide +kernel
theorem dX6_signs_87 : decode cX6_signs 87 = .ok (.aload_n 0, 1) := by decide +kernel
theorem dX6_signs_88 : decode cX6_signs 88 = .ok (.getfield 13, 3) := by decide +kernel
theorem dX6_signs_91 : decode cX6_signs 91 = .ok (.iconst 1, 1) := by decide +kernel
theorem dX6_signs_92 : decode cX6_signs 92 = .ok (.iaload, 1) := by decide +kernel
theorem dX6_signs_93 : decode cX6_signs 93 = .ok (.irem, 1) := by decide +kernel
theorem dX6_signs_94 : decode cX6_signs 94 = .ok (.isub, 1) := by decide +kernel
theorem dX6_signs_95 : decode cX6_signs 95 = .ok (.iastore, 1) := by decide +kernel
theorem dX6_signs_96 : decode cX6_signs 96 = .ok (.aload_n 0, 1) := by decide +kernel
theorem dX6_signs_97 : decode cX6_signs 97 = .ok (.getfield 19, 3) := by decide +kernel
theorem dX6_signs_100 : decode cX6_signs 100 = .ok (.iconst 1, 1) := by decide +kernel
theorem dX6_signs_101 : decode cX6_signs 101 = .ok (.dup2, 1) := by decide +kernel
theorem dX6_signs_102 : decode cX6_signs 102 = .ok (.iaload, 1) := by decide +kernel
theorem dX6_signs_103 : decode cX6_signs 103 = .ok (.iconst 1, 1) := by decide +kernel
theorem dX6_signs_104 : decode cX6_signs 104 = .ok (.iload_n 1, 1) := by decide +kernel
theorem dX6_signs_105 : decode cX6_signs 105 = .ok (.ishl, 1) := by decide +kernel
theorem dX6_signs_106 : decode cX6_signs 106 = .ok (.ior, 1) := by decide +kernel
theorem dX6_signs_107 : decode cX6_signs 107 = .ok (.iastore, 1) := by decide +kernel
theorem dX6_signs_108 : decode cX6_signs 108 = .ok (.aload_n 0, 1) := by decide +kernel
theorem dX6_signs_109 : decode cX6_signs 109 = .ok (.getfield 19, 3) := by decide +kernel
theorem dX6_signs_112 : decode cX6_signs 112 = .ok (.iconst 0, 1) := by decide +kernel
theorem dX6_signs_113 : decode cX6_signs 113 = .ok (.dup2, 1) := by decide +kernel
theorem dX6_signs_114 : decode cX6_signs 114 = .ok (.iaload, 1) := by decide +kernel
theorem dX6_signs_115 : decode cX6_signs 115 = .ok (.iconst 1, 1) := by decide +kernel
theorem dX6_signs_116 : decode cX6_signs 116 = .ok (.iadd, 1) := by decide +kernel
theorem dX6_signs_117 : decode cX6_signs 117 = .ok (.iastore, 1) := by decide +kernel
theorem dX6_signs_118 : decode cX6_signs 118 = .ok (.aload_n 0, 1) := by decide +kernel
theorem dX6_signs_119 : decode cX6_signs 119 = .ok (.getfield 19, 3) := by decide +kernel
theorem dX6_signs_122 : decode cX6_signs 122 = .ok (.bipush 10, 2) := by decide +kernel
theorem dX6_signs_124 : decode cX6_signs 124 = .ok (.iload_n 2, 1) := by decide +kernel
theorem dX6_signs_125 : decode cX6_signs 125 = .ok (.iadd, 1) := by decide +kernel
theorem dX6_signs_126 : decode cX6_signs 126 = .ok (.iaload, 1) := by decide +kernel
theorem dX6_signs_127 : decode cX6_signs 127 = .ok (.ireturn, 1) := by decide +kernel
theorem dX6_hour_0 : decode cX6_hour 0 = .ok (.aload_n 0, 1) := by decide +kernel
theorem dX6_hour_1 : decode cX6_hour 1 = .ok (.getfield 19, 3) := by decide +kernel
theorem dX6_hour_4 : decode cX6_hour 4 = .ok (.iconst 0, 1) := by decide +kernel
theorem dX6_hour_5 : decode cX6_hour 5 = .ok (.iaload, 1) := by decide +kernel
theorem dX6_hour_6 : decode cX6_hour 6 = .ok (.bipush 99, 2) := by decide +kernel
theorem dX6_hour_8 : decode cX6_hour 8 = .ok (.if_icmp .ne 6, 3) := by decide +kernel
theorem dX6_hour_11 : decode cX6_hour 11 = .ok (.bipush (-2), 2) := by decide +kernel
theorem dX6_hour_13 : decode cX6_hour 13 = .ok (.ireturn, 1) := by decide +kernel
theorem dX6_hour_14 : decode cX6_hour 14 = .ok (.aload_n 0, 1) := by decide +kernel
theorem dX6_hour_15 : decode cX6_hour 15 = .ok (.invokevirtual 118, 3) := by decide +kernel
theorem dX6_hour_18 : decode cX6_hour 18 = .ok (.aload_n 0, 1) := by decide +kernel
theorem dX6_hour_19 : decode cX6_hour 19 = .ok (.getfield 19, 3) := by decide +kernel
theorem dX6_hour_22 : decode cX6_hour 22 = .ok (.iconst 0, 1) := by decide +kernel
theorem dX6_hour_23 : decode cX6_hour 23 = .ok (.dup2, 1) := by decide +kernel
theorem dX6_hour_24 : decode cX6_hour 24 = .ok (.iaload, 1) := by decide +kernel
theorem dX6_hour_25 : decode cX6_hour 25 = .ok (.iconst 1, 1) := by decide +kernel
theorem dX6_hour_26 : decode cX6_hour 26 = .ok (.iadd, 1) := by decide +kernel
theorem dX6_hour_27 : decode cX6_hour 27 = .ok (.iastore, 1) := by decide +kernel
theorem dX6_hour_28 : decode cX6_hour 28 = .ok (.aload_n 0, 1) := by decide +kernel
theorem dX6_hour_29 : decode cX6_hour 29 = .ok (.getfield 19, 3) := by decide +kernel
theorem dX6_hour_32 : decode cX6_hour 32 = .ok (.iconst 0, 1) := by decide +kernel
theorem dX6_hour_33 : decode cX6_hour 33 = .ok (.iaload, 1) := by decide +kernel
theorem dX6_hour_34 : decode cX6_hour 34 = .ok (.ireturn, 1) := by decide +kernel
theorem dX6_scrape_0 : decode cX6_scrape 0 = .ok (.aload_n 0, 1) := by decide +kernel
theorem dX6_scrape_1 : decode cX6_scrape 1 = .ok (.iload_n 1, 1) := by decide +kernel
theorem dX6_scrape_2 : decode cX6_scrape 2 = .ok (.invokevirtual 111, 3) := by decide +kernel
theorem dX6_scrape_5 : decode cX6_scrape 5 = .ok (.ifCond .ne 5, 3) := by decide +kernel
theorem dX6_scrape_8 : decode cX6_scrape 8 = .ok (.iconst (-1), 1) := by decide +kernel
theorem dX6_scrape_9 : decode cX6_scrape 9 = .ok (.ireturn, 1) := by decide +kernel
theorem dX6_scrape_10 : decode cX6_scrape 10 = .ok (.aload_n 0, 1) := by decide +kernel
theorem dX6_scrape_11 : decode cX6_scrape 11 = .ok (.getfield 19, 3) := by decide +kernel
theorem dX6_scrape_14 : decode cX6_scrape 14 = .ok (.iconst 2, 1) := by decide +kernel
theorem dX6_scrape_15 : decode cX6_scrape 15 = .ok (.iload_n 1, 1) := by decide +kernel
theorem dX6_scrape_16 : decode cX6_scrape 16 = .ok (.iadd, 1) := by decide +kernel
theorem dX6_scrape_17 : decode cX6_scrape 17 = .ok (.iaload, 1) := by decide +kernel
theorem dX6_scrape_18 : decode cX6_scrape 18 = .ok (.ifCond .ge 6, 3) := by decide +kernel
theorem dX6_scrape_21 : decode cX6_scrape 21 = .ok (.bipush (-2), 2) := by decide +kernel
theorem dX6_scrape_23 : decode cX6_scrape 23 = .ok (.ireturn, 1) := by decide +kernel
theorem dX6_scrape_24 : decode cX6_scrape 24 = .ok (.aload_n 0, 1) := by decide +kernel
theorem dX6_scrape_25 : decode cX6_scrape 25 = .ok (.invokevirtual 118, 3) := by decide +kernel
theorem dX6_scrape_28 : decode cX6_scrape 28 = .ok (.aload_n 0, 1) := by decide +kernel
theorem dX6_scrape_29 : decode cX6_scrape 29 = .ok (.getfield 19, 3) := by decide +kernel
theorem dX6_scrape_32 : decode cX6_scrape 32 = .ok (.iconst 2, 1) := by decide +kernel
theorem dX6_scrape_33 : decode cX6_scrape 33 = .ok (.iload_n 1, 1) := by decide +kernel
theorem dX6_scrape_34 : decode cX6_scrape 34 = .ok (.iadd, 1) := by decide +kernel
theorem dX6_scrape_35 : decode cX6_scrape 35 = .ok (.iaload, 1) := by decide +kernel
theorem dX6_scrape_36 : decode cX6_scrape 36 = .ok (.istore_n 2, 1) := by decide +kernel
theorem dX6_scrape_37 : decode cX6_scrape 37 = .ok (.aload_n 0, 1) := by decide +kernel
theorem dX6_scrape_38 : decode cX6_scrape 38 = .ok (.getfield 19, 3) := by decide +kernel
theorem dX6_scrape_41 : decode cX6_scrape 41 = .ok (.iconst 2, 1) := by decide +kernel
theorem dX6_scrape_42 : decode cX6_scrape 42 = .ok (.iload_n 1, 1) := by decide +kernel
theorem dX6_scrape_43 : decode cX6_scrape 43 = .ok (.iadd, 1) := by decide +kernel
theorem dX6_scrape_44 : decode cX6_scrape 44 = .ok (.iconst (-1), 1) := by decide +kernel
theorem dX6_scrape_45 : decode cX6_scrape 45 = .ok (.iastore, 1) := by decide +kernel
theorem dX6_scrape_46 : decode cX6_scrape 46 = .ok (.aload_n 0, 1) := by decide +kernel
theorem dX6_scrape_47 : decode cX6_scrape 47 = .ok (.getfield 19, 3) := by decide +kernel
theorem dX6_scrape_50 : decode cX6_scrape 50 = .ok (.bipush 10, 2) := by decide +kernel
theorem dX6_scrape_52 : decode cX6_scrape 52 = .ok (.iload_n 1, 1) := by decide +kernel
theorem dX6_scrape_53 : decode cX6_scrape 53 = .ok (.iadd, 1) := by decide +kernel
theorem dX6_scrape_54 : decode cX6_scrape 54 = .ok (.iconst 0, 1) := by decide +kernel
theorem dX6_scrape_55 : decode cX6_scrape 55 = .ok (.iastore, 1) := by decide +kernel
theorem dX6_scrape_56 : decode cX6_scrape 56 = .ok (.iload_n 2, 1) := by decide +kernel
theorem dX6_scrape_57 : decode cX6_scrape 57 = .ok (.ireturn, 1) := by decide +kernel
theorem dX6_undo_0 : decode cX6_undo 0 = .ok (.aload_n 0, 1) := by decide +kernel
theorem dX6_undo_1 : decode cX6_undo 1 = .ok (.getfield 92, 3) := by decide +kernel
theorem dX6_undo_4 : decode cX6_undo 4 = .ok (.ifCond .ne 6, 3) := by decide +kernel
theorem dX6_undo_7 : decode cX6_undo 7 = .ok (.bipush (-2), 2) := by decide +kernel
theorem dX6_undo_9 : decode cX6_undo 9 = .ok (.ireturn, 1) := by decide +kernel
theorem dX6_undo_10 : decode cX6_undo 10 = .ok (.aload_n 0, 1) := by decide +kernel
theorem dX6_undo_11 : decode cX6_undo 11 = .ok (.dup, 1) := by decide +kernel
theorem dX6_undo_12 : decode cX6_undo 12 = .ok (.getfield 92, 3) := by decide +kernel
theorem dX6_undo_15 : decode cX6_undo 15 = .ok (.iconst 1, 1) := by decide +kernel
theorem dX6_undo_16 : decode cX6_undo 16 = .ok (.isub, 1) := by decide +kernel
theorem dX6_undo_17 : decode cX6_undo 17 = .ok (.putfield 92, 3) := by decide +kernel
theorem dX6_undo_20 : decode cX6_undo 20 = .ok (.iconst 0, 1) := by decide +kernel
theorem dX6_undo_21 : decode cX6_undo 21 = .ok (.istore_n 1, 1) := by decide +kernel
theorem dX6_undo_22 : decode cX6_undo 22 = .ok (.iload_n 1, 1) := by decide +kernel
theorem dX6_undo_23 : decode cX6_undo 23 = .ok (.bipush 18, 2) := by decide +kernel
theorem dX6_undo_25 : decode cX6_undo 25 = .ok (.if_icmp .ge 29, 3) := by decide +kernel
theorem dX6_undo_28 : decode cX6_undo 28 = .ok (.aload_n 0, 1) := by decide +kernel
theorem dX6_undo_29 : decode cX6_undo 29 = .ok (.getfield 19, 3) := by decide +kernel
theorem dX6_undo_32 : decode cX6_undo 32 = .ok (.iload_n 1, 1) := by decide +kernel
theorem dX6_undo_33 : decode cX6_undo 33 = .ok (.aload_n 0, 1) := by decide +kernel
theorem dX6_undo_34 : decode cX6_undo 34 = .ok (.getfield 22, 3) := by decide +kernel
theorem dX6_undo_37 : decode cX6_undo 37 = .ok (.bipush 18, 2) := by decide +kernel
theorem dX6_undo_39 : decode cX6_undo 39 = .ok (.aload_n 0, 1) := by decide +kernel
theorem dX6_undo_40 : decode cX6_undo 40 = .ok (.getfield 92, 3) := by decide +kernel
theorem dX6_undo_43 : decode cX6_undo 43 = .ok (.imul, 1) := by decide +kernel
theorem dX6_undo_44 : decode cX6_undo 44 = .ok (.iload_n 1, 1) := by decide +kernel
theorem dX6_undo_45 : decode cX6_undo 45 = .ok (.iadd, 1) := by decide +kernel
theorem dX6_undo_46 : decode cX6_undo 46 = .ok (.iaload, 1) := by decide +kernel
theorem dX6_undo_47 : decode cX6_undo 47 = .ok (.iastore, 1) := by decide +kernel
theorem dX6_undo_48 : decode cX6_undo 48 = .ok (.iinc 1 1, 3) := by decide +kernel
theorem dX6_undo_51 : decode cX6_undo 51 = .ok (.goto (-29), 3) := by decide +kernel
theorem dX6_undo_54 : decode cX6_undo 54 = .ok (.aload_n 0, 1) := by decide +kernel
theorem dX6_undo_55 : decode cX6_undo 55 = .ok (.getfield 92, 3) := by decide +kernel
theorem dX6_undo_58 : decode cX6_undo 58 = .ok (.ireturn, 1) := by decide +kernel
theorem dX6_closed_0 : decode cX6_closed 0 = .ok (.iload_n 1, 1) := by decide +kernel
theorem dX6_closed_1 : decode cX6_closed 1 = .ok (.istore_n 2, 1) := by decide +kernel
theorem dX6_closed_2 : decode cX6_closed 2 = .ok (.iconst (-1), 1) := by decide +kernel
theorem dX6_closed_3 : decode cX6_closed 3 = .ok (.istore_n 3, 1) := by decide +kernel
theorem dX6_closed_4 : decode cX6_closed 4 = .ok (.iload_n 3, 1) := by decide +kernel
theorem dX6_closed_5 : decode cX6_closed 5 = .ok (.iload_n 2, 1) := by decide +kernel
theorem dX6_closed_6 : decode cX6_closed 6 = .ok (.if_icmp .eq 49, 3) := by decide +kernel
theorem dX6_closed_9 : decode cX6_closed 9 = .ok (.iload_n 2, 1) := by decide +kernel
theorem dX6_closed_10 : decode cX6_closed 10 = .ok (.istore_n 3, 1) := by decide +kernel
theorem dX6_closed_11 : decode cX6_closed 11 = .ok (.iconst 0, 1) := by decide +kernel
theorem dX6_closed_12 : decode cX6_closed 12 = .ok (.istore 4, 2) := by decide +kernel
theorem dX6_closed_14 : decode cX6_closed 14 = .ok (.iload 4, 2) := by decide +kernel
theorem dX6_closed_16 : decode cX6_closed 16 = .ok (.aload_n 0, 1) := by decide +kernel
theorem dX6_closed_17 : decode cX6_closed 17 = .ok (.getfield 13, 3) := by decide +kernel
theorem dX6_closed_20 : decode cX6_closed 20 = .ok (.iconst 0, 1) := by decide +kernel
theorem dX6_closed_21 : decode cX6_closed 21 = .ok (.iaload, 1) := by decide +kernel
theorem dX6_closed_22 : decode cX6_closed 22 = .ok (.if_icmp .ge 30, 3) := by decide +kernel
theorem dX6_closed_25 : decode cX6_closed 25 = .ok (.iload_n 2, 1) := by decide +kernel
theorem dX6_closed_26 : decode cX6_closed 26 = .ok (.aload_n 0, 1) := by decide +kernel
theorem dX6_closed_27 : decode cX6_closed 27 = .ok (.iload 4, 2) := by decide +kernel
theorem dX6_closed_29 : decode cX6_closed 29 = .ok (.iload_n 3, 1) := by decide +kernel
theorem dX6_closed_30 : decode cX6_closed 30 = .ok (.invokevirtual 98, 3) := by decide +kernel
theorem dX6_closed_33 : decode cX6_closed 33 = .ok (.ifCond .eq 10, 3) := by decide +kernel
theorem dX6_closed_36 : decode cX6_closed 36 = .ok (.iconst 1, 1) := by decide +kernel
theorem dX6_closed_37 : decode cX6_closed 37 = .ok (.iload 4, 2) := by decide +kernel
theorem dX6_closed_39 : decode cX6_closed 39 = .ok (.ishl, 1) := by decide +kernel
theorem dX6_closed_40 : decode cX6_closed 40 = .ok (.goto 4, 3) := by decide +kernel
theorem dX6_closed_43 : decode cX6_closed 43 = .ok (.iconst 0, 1) := by decide +kernel
theorem dX6_closed_44 : decode cX6_closed 44 = .ok (.ior, 1) := by decide +kernel
theorem dX6_closed_45 : decode cX6_closed 45 = .ok (.istore_n 2, 1) := by decide +kernel
theorem dX6_closed_46 : decode cX6_closed 46 = .ok (.iinc 4 1, 3) := by decide +kernel
theorem dX6_closed_49 : decode cX6_closed 49 = .ok (.goto (-35), 3) := by decide +kernel
theorem dX6_closed_52 : decode cX6_closed 52 = .ok (.goto (-48), 3) := by decide +kernel
theorem dX6_closed_55 : decode cX6_closed 55 = .ok (.iload_n 2, 1) := by decide +kernel
theorem dX6_closed_56 : decode cX6_closed 56 = .ok (.ireturn, 1) := by decide +kernel
theorem dX6_will_0 : decode cX6_will 0 = .ok (.aload_n 0, 1) := by decide +kernel
theorem dX6_will_1 : decode cX6_will 1 = .ok (.aload_n 0, 1) := by decide +kernel
theorem dX6_will_2 : decode cX6_will 2 = .ok (.getfield 19, 3) := by decide +kernel
theorem dX6_will_5 : decode cX6_will 5 = .ok (.iconst 1, 1) := by decide +kernel
theorem dX6_will_6 : decode cX6_will 6 = .ok (.iaload, 1) := by decide +kernel
theorem dX6_will_7 : decode cX6_will 7 = .ok (.invokevirtual 121, 3) := by decide +kernel
theorem dX6_will_10 : decode cX6_will 10 = .ok (.ireturn, 1) := by decide +kernel
theorem dX6_begin_0 : decode cX6_begin 0 = .ok (.iconst 1, 1) := by decide +kernel
theorem dX6_begin_1 : decode cX6_begin 1 = .ok (.aload_n 0, 1) := by decide +kernel
theorem dX6_begin_2 : decode cX6_begin 2 = .ok (.getfield 13, 3) := by decide +kernel
theorem dX6_begin_5 : decode cX6_begin 5 = .ok (.iconst 0, 1) := by decide +kernel
theorem dX6_begin_6 : decode cX6_begin 6 = .ok (.iaload, 1) := by decide +kernel
theorem dX6_begin_7 : decode cX6_begin 7 = .ok (.ishl, 1) := by decide +kernel
theorem dX6_begin_8 : decode cX6_begin 8 = .ok (.iconst 1, 1) := by decide +kernel
theorem dX6_begin_9 : decode cX6_begin 9 = .ok (.isub, 1) := by decide +kernel
theorem dX6_begin_10 : decode cX6_begin 10 = .ok (.istore_n 1, 1) := by decide +kernel
theorem dX6_begin_11 : decode cX6_begin 11 = .ok (.iload_n 1, 1) := by decide +kernel
theorem dX6_begin_12 : decode cX6_begin 12 = .ok (.aload_n 0, 1) := by decide +kernel
theorem dX6_begin_13 : decode cX6_begin 13 = .ok (.getfield 19, 3) := by decide +kernel
theorem dX6_begin_16 : decode cX6_begin 16 = .ok (.iconst 1, 1) := by decide +kernel
theorem dX6_begin_17 : decode cX6_begin 17 = .ok (.iaload, 1) := by decide +kernel
theorem dX6_begin_18 : decode cX6_begin 18 = .ok (.iconst (-1), 1) := by decide +kernel
theorem dX6_begin_19 : decode cX6_begin 19 = .ok (.ixor, 1) := by decide +kernel
theorem dX6_begin_20 : decode cX6_begin 20 = .ok (.iand, 1) := by decide +kernel
theorem dX6_begin_21 : decode cX6_begin 21 = .ok (.istore_n 2, 1) := by decide +kernel
theorem dX6_begin_22 : decode cX6_begin 22 = .ok (.iload_n 2, 1) := by decide +kernel
theorem dX6_begin_23 : decode cX6_begin 23 = .ok (.istore_n 3, 1) := by decide +kernel
theorem dX6_begin_24 : decode cX6_begin 24 = .ok (.iload_n 3, 1) := by decide +kernel
theorem dX6_begin_25 : decode cX6_begin 25 = .ok (.ifCond .lt 71, 3) := by decide +kernel
theorem dX6_begin_28 : decode cX6_begin 28 = .ok (.iload_n 3, 1) := by decide +kernel
theorem dX6_begin_29 : decode cX6_begin 29 = .ok (.iload_n 1, 1) := by decide +kernel
theorem dX6_begin_30 : decode cX6_begin 30 = .ok (.aload_n 0, 1) := by decide +kernel
theorem dX6_begin_31 : decode cX6_begin 31 = .ok (.getfield 19, 3) := by decide +kernel
theorem dX6_begin_34 : decode cX6_begin 34 = .ok (.iconst 1, 1) := by decide +kernel
theorem dX6_begin_35 : decode cX6_begin 35 = .ok (.iaload, 1) := by decide +kernel
theorem dX6_begin_36 : decode cX6_begin 36 = .ok (.iconst (-1), 1) := by decide +kernel
theorem dX6_begin_37 : decode cX6_begin 37 = .ok (.ixor, 1) := by decide +kernel
theorem dX6_begin_38 : decode cX6_begin 38 = .ok (.iand, 1) := by decide +kernel
theorem dX6_begin_39 : decode cX6_begin 39 = .ok (.iconst (-1), 1) := by decide +kernel
theorem dX6_begin_40 : decode cX6_begin 40 = .ok (.ixor, 1) := by decide +kernel
theorem dX6_begin_41 : decode cX6_begin 41 = .ok (.iand, 1) := by decide +kernel
theorem dX6_begin_42 : decode cX6_begin 42 = .ok (.ifCond .ne 34, 3) := by decide +kernel
theorem dX6_begin_45 : decode cX6_begin 45 = .ok (.iload_n 3, 1) := by decide +kernel
theorem dX6_begin_46 : decode cX6_begin 46 = .ok (.invokestatic 95, 3) := by decide +kernel
theorem dX6_begin_49 : decode cX6_begin 49 = .ok (.iload_n 2, 1) := by decide +kernel
theorem dX6_begin_50 : decode cX6_begin 50 = .ok (.invokestatic 95, 3) := by decide +kernel
theorem dX6_begin_53 : decode cX6_begin 53 = .ok (.if_icmp .gt 23, 3) := by decide +kernel
theorem dX6_begin_56 : decode cX6_begin 56 = .ok (.aload_n 0, 1) := by decide +kernel
theorem dX6_begin_57 : decode cX6_begin 57 = .ok (.aload_n 0, 1) := by decide +kernel
theorem dX6_begin_58 : decode cX6_begin 58 = .ok (.getfield 19, 3) := by decide +kernel
theorem dX6_begin_61 : decode cX6_begin 61 = .ok (.iconst 1, 1) := by decide +kernel
theorem dX6_begin_62 : decode cX6_begin 62 = .ok (.iaload, 1) := by decide +kernel
theorem dX6_begin_63 : decode cX6_begin 63 = .ok (.iload_n 3, 1) := by decide +kernel
theorem dX6_begin_64 : decode cX6_begin 64 = .ok (.ior, 1) := by decide +kernel
theorem dX6_begin_65 : decode cX6_begin 65 = .ok (.invokevirtual 121, 3) := by decide +kernel
theorem dX6_begin_68 : decode cX6_begin 68 = .ok (.iload_n 1, 1) := by decide +kernel
theorem dX6_begin_69 : decode cX6_begin 69 = .ok (.if_icmp .ne 7, 3) := by decide +kernel
theorem dX6_begin_72 : decode cX6_begin 72 = .ok (.iconst 1, 1) := by decide +kernel
theorem dX6_begin_73 : decode cX6_begin 73 = .ok (.goto 4, 3) := by decide +kernel
theorem dX6_begin_76 : decode cX6_begin 76 = .ok (.iconst 0, 1) := by decide +kernel
theorem dX6_begin_77 : decode cX6_begin 77 = .ok (.istore 4, 2) := by decide +kernel
theorem dX6_begin_79 : decode cX6_begin 79 = .ok (.iload 4, 2) := by decide +kernel
theorem dX6_begin_81 : decode cX6_begin 81 = .ok (.ifCond .eq 7, 3) := by decide +kernel
theorem dX6_begin_84 : decode cX6_begin 84 = .ok (.iload_n 3, 1) := by decide +kernel
theorem dX6_begin_85 : decode cX6_begin 85 = .ok (.goto 4, 3) := by decide +kernel
theorem dX6_begin_88 : decode cX6_begin 88 = .ok (.iload_n 2, 1) := by decide +kernel
theorem dX6_begin_89 : decode cX6_begin 89 = .ok (.istore_n 2, 1) := by decide +kernel
theorem dX6_begin_90 : decode cX6_begin 90 = .ok (.iinc 3 (-1), 3) := by decide +kernel
theorem dX6_begin_93 : decode cX6_begin 93 = .ok (.goto (-69), 3) := by decide +kernel
theorem dX6_begin_96 : decode cX6_begin 96 = .ok (.iload_n 2, 1) := by decide +kernel
theorem dX6_begin_97 : decode cX6_begin 97 = .ok (.ireturn, 1) := by decide +kernel
theorem dX6_inkOf_0 : decode cX6_inkOf 0 = .ok (.aload_n 0, 1) := by decide +kernel
theorem dX6_inkOf_1 : decode cX6_inkOf 1 = .ok (.iload_n 1, 1) := by decide +kernel
theorem dX6_inkOf_2 : decode cX6_inkOf 2 = .ok (.invokevirtual 105, 3) := by decide +kernel
theorem dX6_inkOf_5 : decode cX6_inkOf 5 = .ok (.bipush (-9), 2) := by decide +kernel
theorem dX6_inkOf_7 : decode cX6_inkOf 7 = .ok (.if_icmp .ne 7, 3) := by decide +kernel
theorem dX6_inkOf_10 : decode cX6_inkOf 10 = .ok (.iconst 0, 1) := by decide +kernel
theorem dX6_inkOf_11 : decode cX6_inkOf 11 = .ok (.goto 16, 3) := by decide +kernel
theorem dX6_inkOf_14 : decode cX6_inkOf 14 = .ok (.aload_n 0, 1) := by decide +kernel
theorem dX6_inkOf_15 : decode cX6_inkOf 15 = .ok (.getfield 19, 3) := by decide +kernel
theorem dX6_inkOf_18 : decode cX6_inkOf 18 = .ok (.bipush 10, 2) := by decide +kernel
theorem dX6_inkOf_20 : decode cX6_inkOf 20 = .ok (.aload_n 0, 1) := by decide +kernel
theorem dX6_inkOf_21 : decode cX6_inkOf 21 = .ok (.iload_n 1, 1) := by decide +kernel
theorem dX6_inkOf_22 : decode cX6_inkOf 22 = .ok (.invokevirtual 105, 3) := by decide +kernel
theorem dX6_inkOf_25 : decode cX6_inkOf 25 = .ok (.iadd, 1) := by decide +kernel
theorem dX6_inkOf_26 : decode cX6_inkOf 26 = .ok (.iaload, 1) := by decide +kernel
theorem dX6_inkOf_27 : decode cX6_inkOf 27 = .ok (.ireturn, 1) := by decide +kernel
theorem dX6_lays_0 : decode cX6_lays 0 = .ok (.iload_n 1, 1) := by decide +kernel
theorem dX6_lays_1 : decode cX6_lays 1 = .ok (.invokestatic 95, 3) := by decide +kernel
theorem dX6_lays_4 : decode cX6_lays 4 = .ok (.istore_n 2, 1) := by decide +kernel
theorem dX6_lays_5 : decode cX6_lays 5 = .ok (.aload_n 0, 1) := by decide +kernel
theorem dX6_lays_6 : decode cX6_lays 6 = .ok (.iconst 0, 1) := by decide +kernel
theorem dX6_lays_7 : decode cX6_lays 7 = .ok (.putfield 124, 3) := by decide +kernel
theorem dX6_lays_10 : decode cX6_lays 10 = .ok (.iload_n 2, 1) := by decide +kernel
theorem dX6_lays_11 : decode cX6_lays 11 = .ok (.ifCond .ne 16, 3) := by decide +kernel
theorem dX6_lays_14 : decode cX6_lays 14 = .ok (.aload_n 0, 1) := by decide +kernel
theorem dX6_lays_15 : decode cX6_lays 15 = .ok (.getfield 32, 3) := by decide +kernel
theorem dX6_lays_18 : decode cX6_lays 18 = .ok (.iconst 0, 1) := by decide +kernel
theorem dX6_lays_19 : decode cX6_lays 19 = .ok (.iconst 0, 1) := by decide +kernel
theorem dX6_lays_20 : decode cX6_lays 20 = .ok (.iastore, 1) := by decide +kernel
theorem dX6_lays_21 : decode cX6_lays 21 = .ok (.aload_n 0, 1) := by decide +kernel
theorem dX6_lays_22 : decode cX6_lays 22 = .ok (.iconst 1, 1) := by decide +kernel
theorem dX6_lays_23 : decode cX6_lays 23 = .ok (.putfield 124, 3) := by decide +kernel
theorem dX6_lays_26 : decode cX6_lays 26 = .ok (.return_, 1) := by decide +kernel
theorem dX6_lays_27 : decode cX6_lays 27 = .ok (.iconst 0, 1) := by decide +kernel
theorem dX6_lays_28 : decode cX6_lays 28 = .ok (.istore_n 3, 1) := by decide +kernel
theorem dX6_lays_29 : decode cX6_lays 29 = .ok (.aload_n 0, 1) := by decide +kernel
theorem dX6_lays_30 : decode cX6_lays 30 = .ok (.getfield 35, 3) := by decide +kernel
theorem dX6_lays_33 : decode cX6_lays 33 = .ok (.iconst 0, 1) := by decide +kernel
theorem dX6_lays_34 : decode cX6_lays 34 = .ok (.iconst (-1), 1) := by decide +kernel
theorem dX6_lays_35 : decode cX6_lays 35 = .ok (.iastore, 1) := by decide +kernel
theorem dX6_lays_36 : decode cX6_lays 36 = .ok (.iload_n 3, 1) := by decide +kernel
theorem dX6_lays_37 : decode cX6_lays 37 = .ok (.ifCond .lt 269, 3) := by decide +kernel
theorem dX6_lays_40 : decode cX6_lays 40 = .ok (.aload_n 0, 1) := by decide +kernel
theorem dX6_lays_41 : decode cX6_lays 41 = .ok (.getfield 35, 3) := by decide +kernel
theorem dX6_lays_44 : decode cX6_lays 44 = .ok (.iload_n 3, 1) := by decide +kernel
theorem dX6_lays_45 : decode cX6_lays 45 = .ok (.dup2, 1) := by decide +kernel
theorem dX6_lays_46 : decode cX6_lays 46 = .ok (.iaload, 1) := by decide +kernel
theorem dX6_lays_47 : decode cX6_lays 47 = .ok (.iconst 1, 1) := by decide +kernel
theorem dX6_lays_48 : decode cX6_lays 48 = .ok (.iadd, 1) := by decide +kernel
theorem dX6_lays_49 : decode cX6_lays 49 = .ok (.iastore, 1) := by decide +kernel
theorem dX6_lays_50 : decode cX6_lays 50 = .ok (.aload_n 0, 1) := by decide +kernel
theorem dX6_lays_51 : decode cX6_lays 51 = .ok (.getfield 35, 3) := by decide +kernel
theorem dX6_lays_54 : decode cX6_lays 54 = .ok (.iload_n 3, 1) := by decide +kernel
theorem dX6_lays_55 : decode cX6_lays 55 = .ok (.iaload, 1) := by decide +kernel
theorem dX6_lays_56 : decode cX6_lays 56 = .ok (.istore 4, 2) := by decide +kernel
theorem dX6_lays_58 : decode cX6_lays 58 = .ok (.iconst 0, 1) := by decide +kernel
theorem dX6_lays_59 : decode cX6_lays 59 = .ok (.istore 5, 2) := by decide +kernel
theorem dX6_lays_61 : decode cX6_lays 61 = .ok (.iconst 0, 1) := by decide +kernel
theorem dX6_lays_62 : decode cX6_lays 62 = .ok (.istore 6, 2) := by decide +kernel
theorem dX6_lays_64 : decode cX6_lays 64 = .ok (.iload 6, 2) := by decide +kernel
theorem dX6_lays_66 : decode cX6_lays 66 = .ok (.iload_n 3, 1) := by decide +kernel
theorem dX6_lays_67 : decode cX6_lays 67 = .ok (.if_icmp .ge 23, 3) := by decide +kernel
theorem dX6_lays_70 : decode cX6_lays 70 = .ok (.iload 5, 2) := by decide +kernel
theorem dX6_lays_72 : decode cX6_lays 72 = .ok (.iconst 1, 1) := by decide +kernel
theorem dX6_lays_73 : decode cX6_lays 73 = .ok (.aload_n 0, 1) := by decide +kernel
theorem dX6_lays_74 : decode cX6_lays 74 = .ok (.getfield 35, 3) := by decide +kernel
theorem dX6_lays_77 : decode cX6_lays 77 = .ok (.iload 6, 2) := by decide +kernel
theorem dX6_lays_79 : decode cX6_lays 79 = .ok (.iaload, 1) := by decide +kernel
theorem dX6_lays_80 : decode cX6_lays 80 = .ok (.ishl, 1) := by decide +kernel
theorem dX6_lays_81 : decode cX6_lays 81 = .ok (.ior, 1) := by decide +kernel
theorem dX6_lays_82 : decode cX6_lays 82 = .ok (.istore 5, 2) := by decide +kernel
theorem dX6_lays_84 : decode cX6_lays 84 = .ok (.iinc 6 1, 3) := by decide +kernel
theorem dX6_lays_87 : decode cX6_lays 87 = .ok (.goto (-23), 3) := by decide +kernel
theorem dX6_lays_90 : decode cX6_lays 90 = .ok (.iload 4, 2) := by decide +kernel
theorem dX6_lays_92 : decode cX6_lays 92 = .ok (.aload_n 0, 1) := by decide +kernel
theorem dX6_lays_93 : decode cX6_lays 93 = .ok (.getfield 13, 3) := by decide +kernel
theorem dX6_lays_96 : decode cX6_lays 96 = .ok (.iconst 0, 1) := by decide +kernel
theorem dX6_lays_97 : decode cX6_lays 97 = .ok (.iaload, 1) := by decide +kernel
theorem dX6_lays_98 : decode cX6_lays 98 = .ok (.if_icmp .lt 9, 3) := by decide +kernel
theorem dX6_lays_101 : decode cX6_lays 101 = .ok (.iinc 3 (-1), 3) := by decide +kernel
theorem dX6_lays_104 : decode cX6_lays 104 = .ok (.goto 199, 3) := by decide +kernel
theorem dX6_lays_107 : decode cX6_lays 107 = .ok (.iload_n 1, 1) := by decide +kernel
theorem dX6_lays_108 : decode cX6_lays 108 = .ok (.iload 4, 2) := by decide +kernel
theorem dX6_lays_110 : decode cX6_lays 110 = .ok (.ishr, 1) := by decide +kernel
theorem dX6_lays_111 : decode cX6_lays 111 = .ok (.iconst 1, 1) := by decide +kernel
theorem dX6_lays_112 : decode cX6_lays 112 = .ok (.iand, 1) := by decide +kernel
theorem dX6_lays_113 : decode cX6_lays 113 = .ok (.iconst 1, 1) := by decide +kernel
theorem dX6_lays_114 : decode cX6_lays 114 = .ok (.if_icmp .ne 189, 3) := by decide +kernel
theorem dX6_lays_117 : decode cX6_lays 117 = .ok (.aload_n 0, 1) := by decide +kernel
theorem dX6_lays_118 : decode cX6_lays 118 = .ok (.iload 4, 2) := by decide +kernel
theorem dX6_lays_120 : decode cX6_lays 120 = .ok (.iload 5, 2) := by decide +kernel
theorem dX6_lays_122 : decode cX6_lays 122 = .ok (.invokevirtual 98, 3) := by decide +kernel
theorem dX6_lays_125 : decode cX6_lays 125 = .ok (.ifCond .eq 178, 3) := by decide +kernel
theorem dX6_lays_128 : decode cX6_lays 128 = .ok (.aload_n 0, 1) := by decide +kernel
theorem dX6_lays_129 : decode cX6_lays 129 = .ok (.iload 4, 2) := by decide +kernel
theorem dX6_lays_131 : decode cX6_lays 131 = .ok (.invokevirtual 127, 3) := by decide +kernel
theorem dX6_lays_134 : decode cX6_lays 134 = .ok (.aload_n 0, 1) := by decide +kernel
theorem dX6_lays_135 : decode cX6_lays 135 = .ok (.getfield 13, 3) := by decide +kernel
theorem dX6_lays_138 : decode cX6_lays 138 = .ok (.iconst 1, 1) := by decide +kernel
theorem dX6_lays_139 : decode cX6_lays 139 = .ok (.iaload, 1) := by decide +kernel
theorem dX6_lays_140 : decode cX6_lays 140 = .ok (.iload_n 3, 1) := by decide +kernel
theorem dX6_lays_141 : decode cX6_lays 141 = .ok (.aload_n 0, 1) := by decide +kernel
theorem dX6_lays_142 : decode cX6_lays 142 = .ok (.getfield 13, 3) := by decide +kernel
theorem dX6_lays_145 : decode cX6_lays 145 = .ok (.iconst 1, 1) := by decide +kernel
theorem dX6_lays_146 : decode cX6_lays 146 = .ok (.iaload, 1) := by decide +kernel
theorem dX6_lays_147 : decode cX6_lays 147 = .ok (.irem, 1) := by decide +kernel
theorem dX6_lays_148 : decode cX6_lays 148 = .ok (.isub, 1) := by decide +kernel
theorem dX6_lays_149 : decode cX6_lays 149 = .ok (.if_icmp .ne 154, 3) := by decide +kernel
theorem dX6_lays_152 : decode cX6_lays 152 = .ok (.iload_n 3, 1) := by decide +kernel
theorem dX6_lays_153 : decode cX6_lays 153 = .ok (.ifCond .ne 7, 3) := by decide +kernel
theorem dX6_lays_156 : decode cX6_lays 156 = .ok (.iconst (-1), 1) := by decide +kernel
theorem dX6_lays_157 : decode cX6_lays 157 = .ok (.goto 11, 3) := by decide +kernel
theorem dX6_lays_160 : decode cX6_lays 160 = .ok (.aload_n 0, 1) := by decide +kernel
theorem dX6_lays_161 : decode cX6_lays 161 = .ok (.getfield 38, 3) := by decide +kernel
theorem dX6_lays_164 : decode cX6_lays 164 = .ok (.iload_n 3, 1) := by decide +kernel
theorem dX6_lays_165 : decode cX6_lays 165 = .ok (.iconst 1, 1) := by decide +kernel
theorem dX6_lays_166 : decode cX6_lays 166 = .ok (.isub, 1) := by decide +kernel
theorem dX6_lays_167 : decode cX6_lays 167 = .ok (.iaload, 1) := by decide +kernel
theorem dX6_lays_168 : decode cX6_lays 168 = .ok (.iconst 1, 1) := by decide +kernel
theorem dX6_lays_169 : decode cX6_lays 169 = .ok (.iadd, 1) := by decide +kernel
theorem dX6_lays_170 : decode cX6_lays 170 = .ok (.istore 6, 2) := by decide +kernel
theorem dX6_lays_172 : decode cX6_lays 172 = .ok (.iload 6, 2) := by decide +kernel
theorem dX6_lays_174 : decode cX6_lays 174 = .ok (.iload 6, 2) := by decide +kernel
theorem dX6_lays_176 : decode cX6_lays 176 = .ok (.iconst 3, 1) := by decide +kernel
theorem dX6_lays_177 : decode cX6_lays 177 = .ok (.irem, 1) := by decide +kernel
theorem dX6_lays_178 : decode cX6_lays 178 = .ok (.aload_n 0, 1) := by decide +kernel
theorem dX6_lays_179 : decode cX6_lays 179 = .ok (.getfield 13, 3) := by decide +kernel
theorem dX6_lays_182 : decode cX6_lays 182 = .ok (.iconst 5, 1) := by decide +kernel
theorem dX6_lays_183 : decode cX6_lays 183 = .ok (.iload 4, 2) := by decide +kernel
theorem dX6_lays_185 : decode cX6_lays 185 = .ok (.iadd, 1) := by decide +kernel
theorem dX6_lays_186 : decode cX6_lays 186 = .ok (.iaload, 1) := by decide +kernel
theorem dX6_lays_187 : decode cX6_lays 187 = .ok (.if_icmp .ne 7, 3) := by decide +kernel
theorem dX6_lays_190 : decode cX6_lays 190 = .ok (.iconst 1, 1) := by decide +kernel
theorem dX6_lays_191 : decode cX6_lays 191 = .ok (.goto 4, 3) := by decide +kernel
theorem dX6_lays_194 : decode cX6_lays 194 = .ok (.iconst 0, 1) := by decide +kernel
theorem dX6_lays_195 : decode cX6_lays 195 = .ok (.iadd, 1) := by decide +kernel
theorem dX6_lays_196 : decode cX6_lays 196 = .ok (.istore 6, 2) := by decide +kernel
theorem dX6_lays_198 : decode cX6_lays 198 = .ok (.aload_n 0, 1) := by decide +kernel
theorem dX6_lays_199 : decode cX6_lays 199 = .ok (.getfield 38, 3) := by decide +kernel
theorem dX6_lays_202 : decode cX6_lays 202 = .ok (.iload_n 3, 1) := by decide +kernel
theorem dX6_lays_203 : decode cX6_lays 203 = .ok (.iload 6, 2) := by decide +kernel
theorem dX6_lays_205 : decode cX6_lays 205 = .ok (.iastore, 1) := by decide +kernel
theorem dX6_lays_206 : decode cX6_lays 206 = .ok (.iload 6, 2) := by decide +kernel
theorem dX6_lays_208 : decode cX6_lays 208 = .ok (.aload_n 0, 1) := by decide +kernel
theorem dX6_lays_209 : decode cX6_lays 209 = .ok (.getfield 19, 3) := by decide +kernel
theorem dX6_lays_212 : decode cX6_lays 212 = .ok (.iconst 0, 1) := by decide +kernel
theorem dX6_lays_213 : decode cX6_lays 213 = .ok (.iaload, 1) := by decide +kernel
theorem dX6_lays_214 : decode cX6_lays 214 = .ok (.if_icmp .ge 68, 3) := by decide +kernel
theorem dX6_lays_217 : decode cX6_lays 217 = .ok (.iload_n 3, 1) := by decide +kernel
theorem dX6_lays_218 : decode cX6_lays 218 = .ok (.iconst 1, 1) := by decide +kernel
theorem dX6_lays_219 : decode cX6_lays 219 = .ok (.iadd, 1) := by decide +kernel
theorem dX6_lays_220 : decode cX6_lays 220 = .ok (.iload_n 2, 1) := by decide +kernel
theorem dX6_lays_221 : decode cX6_lays 221 = .ok (.if_icmp .ne 61, 3) := by decide +kernel
theorem dX6_lays_224 : decode cX6_lays 224 = .ok (.iconst 0, 1) := by decide +kernel
theorem dX6_lays_225 : decode cX6_lays 225 = .ok (.istore 7, 2) := by decide +kernel
theorem dX6_lays_227 : decode cX6_lays 227 = .ok (.iload_n 2, 1) := by decide +kernel
theorem dX6_lays_228 : decode cX6_lays 228 = .ok (.iconst 1, 1) := by decide +kernel
theorem dX6_lays_229 : decode cX6_lays 229 = .ok (.isub, 1) := by decide +kernel
theorem dX6_lays_230 : decode cX6_lays 230 = .ok (.istore 8, 2) := by decide +kernel
theorem dX6_lays_232 : decode cX6_lays 232 = .ok (.iload 8, 2) := by decide +kernel
theorem dX6_lays_234 : decode cX6_lays 234 = .ok (.ifCond .lt 24, 3) := by decide +kernel
theorem dX6_lays_237 : decode cX6_lays 237 = .ok (.bipush 8, 2) := by decide +kernel
theorem dX6_lays_239 : decode cX6_lays 239 = .ok (.iload 7, 2) := by decide +kernel
theorem dX6_lays_241 : decode cX6_lays 241 = .ok (.imul, 1) := by decide +kernel
theorem dX6_lays_242 : decode cX6_lays 242 = .ok (.aload_n 0, 1) := by decide +kernel
theorem dX6_lays_243 : decode cX6_lays 243 = .ok (.getfield 35, 3) := by decide +kernel
theorem dX6_lays_246 : decode cX6_lays 246 = .ok (.iload 8, 2) := by decide +kernel
theorem dX6_lays_248 : decode cX6_lays 248 = .ok (.iaload, 1) := by decide +kernel
theorem dX6_lays_249 : decode cX6_lays 249 = .ok (.iadd, 1) := by decide +kernel
theorem dX6_lays_250 : decode cX6_lays 250 = .ok (.istore 7, 2) := by decide +kernel
theorem dX6_lays_252 : decode cX6_lays 252 = .ok (.iinc 8 (-1), 3) := by decide +kernel
theorem dX6_lays_255 : decode cX6_lays 255 = .ok (.goto (-23), 3) := by decide +kernel
theorem dX6_lays_258 : decode cX6_lays 258 = .ok (.aload_n 0, 1) := by decide +kernel
