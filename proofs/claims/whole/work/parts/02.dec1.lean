theorem dX3_giveBack_29 : decode cX3_giveBack 29 = .ok (.ifCond .le 7, 3) := by decide +kernel
theorem dX3_giveBack_32 : decode cX3_giveBack 32 = .ok (.aload_n 3, 1) := by decide +kernel
theorem dX3_giveBack_33 : decode cX3_giveBack 33 = .ok (.ifnonnull 5, 3) := by decide +kernel
theorem dX3_giveBack_36 : decode cX3_giveBack 36 = .ok (.iconst 0, 1) := by decide +kernel
theorem dX3_giveBack_37 : decode cX3_giveBack 37 = .ok (.ireturn, 1) := by decide +kernel
theorem dX3_giveBack_38 : decode cX3_giveBack 38 = .ok (.aload_n 1, 1) := by decide +kernel
theorem dX3_giveBack_39 : decode cX3_giveBack 39 = .ok (.aload_n 3, 1) := by decide +kernel
theorem dX3_giveBack_40 : decode cX3_giveBack 40 = .ok (.invokevirtual 26, 3) := by decide +kernel
theorem dX3_giveBack_43 : decode cX3_giveBack 43 = .ok (.aload_n 0, 1) := by decide +kernel
theorem dX3_giveBack_44 : decode cX3_giveBack 44 = .ok (.iload_n 2, 1) := by decide +kernel
theorem dX3_giveBack_45 : decode cX3_giveBack 45 = .ok (.putfield 18, 3) := by decide +kernel
theorem dX3_giveBack_48 : decode cX3_giveBack 48 = .ok (.aload_n 0, 1) := by decide +kernel
theorem dX3_giveBack_49 : decode cX3_giveBack 49 = .ok (.dup, 1) := by decide +kernel
theorem dX3_giveBack_50 : decode cX3_giveBack 50 = .ok (.getfield 30, 3) := by decide +kernel
theorem dX3_giveBack_53 : decode cX3_giveBack 53 = .ok (.iconst 1, 1) := by decide +kernel
theorem dX3_giveBack_54 : decode cX3_giveBack 54 = .ok (.isub, 1) := by decide +kernel
theorem dX3_giveBack_55 : decode cX3_giveBack 55 = .ok (.putfield 30, 3) := by decide +kernel
theorem dX3_giveBack_58 : decode cX3_giveBack 58 = .ok (.iconst 1, 1) := by decide +kernel
theorem dX3_giveBack_59 : decode cX3_giveBack 59 = .ok (.ireturn, 1) := by decide +kernel
theorem dX3_forget_0 : decode cX3_forget 0 = .ok (.aload_n 0, 1) := by decide +kernel
theorem dX3_forget_1 : decode cX3_forget 1 = .ok (.iconst 0, 1) := by decide +kernel
theorem dX3_forget_2 : decode cX3_forget 2 = .ok (.putfield 30, 3) := by decide +kernel
theorem dX3_forget_5 : decode cX3_forget 5 = .ok (.return_, 1) := by decide +kernel
theorem dX3_slotAt_0 : decode cX3_slotAt 0 = .ok (.iload_n 1, 1) := by decide +kernel
theorem dX3_slotAt_1 : decode cX3_slotAt 1 = .ok (.ifCond .lt 21, 3) := by decide +kernel
theorem dX3_slotAt_4 : decode cX3_slotAt 4 = .ok (.iload_n 1, 1) := by decide +kernel
theorem dX3_slotAt_5 : decode cX3_slotAt 5 = .ok (.aload_n 0, 1) := by decide +kernel
theorem dX3_slotAt_6 : decode cX3_slotAt 6 = .ok (.getfield 11, 3) := by decide +kernel
theorem dX3_slotAt_9 : decode cX3_slotAt 9 = .ok (.arraylength, 1) := by decide +kernel
theorem dX3_slotAt_10 : decode cX3_slotAt 10 = .ok (.if_icmp .ge 12, 3) := by decide +kernel
theorem dX3_slotAt_13 : decode cX3_slotAt 13 = .ok (.aload_n 0, 1) := by decide +kernel
theorem dX3_slotAt_14 : decode cX3_slotAt 14 = .ok (.getfield 11, 3) := by decide +kernel
theorem dX3_slotAt_17 : decode cX3_slotAt 17 = .ok (.iload_n 1, 1) := by decide +kernel
theorem dX3_slotAt_18 : decode cX3_slotAt 18 = .ok (.aaload, 1) := by decide +kernel
theorem dX3_slotAt_19 : decode cX3_slotAt 19 = .ok (.goto 4, 3) := by decide +kernel
theorem dX3_slotAt_22 : decode cX3_slotAt 22 = .ok (.aconst_null, 1) := by decide +kernel
theorem dX3_slotAt_23 : decode cX3_slotAt 23 = .ok (.areturn, 1) := by decide +kernel
theorem dX4_init_0 : decode cX4_init 0 = .ok (.aload_n 0, 1) := by decide +kernel
theorem dX4_init_1 : decode cX4_init 1 = .ok (.invokespecial 3, 3) := by decide +kernel
theorem dX4_init_4 : decode cX4_init 4 = .ok (.aload_n 0, 1) := by decide +kernel
theorem dX4_init_5 : decode cX4_init 5 = .ok (.sipush 200, 3) := by decide +kernel
theorem dX4_init_8 : decode cX4_init 8 = .ok (.newarray .int, 2) := by decide +kernel
theorem dX4_init_10 : decode cX4_init 10 = .ok (.putfield 9, 3) := by decide +kernel
theorem dX4_init_13 : decode cX4_init 13 = .ok (.return_, 1) := by decide +kernel
theorem dX4_append_0 : decode cX4_append 0 = .ok (.aload_n 0, 1) := by decide +kernel
theorem dX4_append_1 : decode cX4_append 1 = .ok (.getfield 15, 3) := by decide +kernel
theorem dX4_append_4 : decode cX4_append 4 = .ok (.sipush 200, 3) := by decide +kernel
theorem dX4_append_7 : decode cX4_append 7 = .ok (.if_icmp .lt 5, 3) := by decide +kernel
theorem dX4_append_10 : decode cX4_append 10 = .ok (.iconst 0, 1) := by decide +kernel
theorem dX4_append_11 : decode cX4_append 11 = .ok (.ireturn, 1) := by decide +kernel
theorem dX4_append_12 : decode cX4_append 12 = .ok (.aload_n 0, 1) := by decide +kernel
theorem dX4_append_13 : decode cX4_append 13 = .ok (.getfield 9, 3) := by decide +kernel
theorem dX4_append_16 : decode cX4_append 16 = .ok (.aload_n 0, 1) := by decide +kernel
theorem dX4_append_17 : decode cX4_append 17 = .ok (.getfield 15, 3) := by decide +kernel
theorem dX4_append_20 : decode cX4_append 20 = .ok (.iload_n 1, 1) := by decide +kernel
theorem dX4_append_21 : decode cX4_append 21 = .ok (.invokestatic 19, 3) := by decide +kernel
theorem dX4_append_24 : decode cX4_append 24 = .ok (.aload_n 0, 1) := by decide +kernel
theorem dX4_append_25 : decode cX4_append 25 = .ok (.dup, 1) := by decide +kernel
theorem dX4_append_26 : decode cX4_append 26 = .ok (.getfield 15, 3) := by decide +kernel
theorem dX4_append_29 : decode cX4_append 29 = .ok (.iconst 1, 1) := by decide +kernel
theorem dX4_append_30 : decode cX4_append 30 = .ok (.iadd, 1) := by decide +kernel
theorem dX4_append_31 : decode cX4_append 31 = .ok (.putfield 15, 3) := by decide +kernel
theorem dX4_append_34 : decode cX4_append 34 = .ok (.iconst 1, 1) := by decide +kernel
theorem dX4_append_35 : decode cX4_append 35 = .ok (.ireturn, 1) := by decide +kernel
theorem dX4_readInto_0 : decode cX4_readInto 0 = .ok (.aload_n 1, 1) := by decide +kernel
theorem dX4_readInto_1 : decode cX4_readInto 1 = .ok (.invokevirtual 23, 3) := by decide +kernel
theorem dX4_readInto_4 : decode cX4_readInto 4 = .ok (.aload_n 0, 1) := by decide +kernel
theorem dX4_readInto_5 : decode cX4_readInto 5 = .ok (.iconst 0, 1) := by decide +kernel
theorem dX4_readInto_6 : decode cX4_readInto 6 = .ok (.putfield 28, 3) := by decide +kernel
theorem dX4_readInto_9 : decode cX4_readInto 9 = .ok (.aload_n 0, 1) := by decide +kernel
theorem dX4_readInto_10 : decode cX4_readInto 10 = .ok (.iconst 0, 1) := by decide +kernel
theorem dX4_readInto_11 : decode cX4_readInto 11 = .ok (.putfield 31, 3) := by decide +kernel
theorem dX4_readInto_14 : decode cX4_readInto 14 = .ok (.aload_n 0, 1) := by decide +kernel
theorem dX4_readInto_15 : decode cX4_readInto 15 = .ok (.iconst 0, 1) := by decide +kernel
theorem dX4_readInto_16 : decode cX4_readInto 16 = .ok (.putfield 35, 3) := by decide +kernel
theorem dX4_readInto_19 : decode cX4_readInto 19 = .ok (.iconst 0, 1) := by decide +kernel
theorem dX4_readInto_20 : decode cX4_readInto 20 = .ok (.istore_n 2, 1) := by decide +kernel
theorem dX4_readInto_21 : decode cX4_readInto 21 = .ok (.iload_n 2, 1) := by decide +kernel
theorem dX4_readInto_22 : decode cX4_readInto 22 = .ok (.sipush 200, 3) := by decide +kernel
theorem dX4_readInto_25 : decode cX4_readInto 25 = .ok (.if_icmp .ge 93, 3) := by decide +kernel
theorem dX4_readInto_28 : decode cX4_readInto 28 = .ok (.iconst 0, 1) := by decide +kernel
theorem dX4_readInto_29 : decode cX4_readInto 29 = .ok (.istore_n 3, 1) := by decide +kernel
theorem dX4_readInto_30 : decode cX4_readInto 30 = .ok (.aload_n 0, 1) := by decide +kernel
theorem dX4_readInto_31 : decode cX4_readInto 31 = .ok (.invokevirtual 38, 3) := by decide +kernel
theorem dX4_readInto_34 : decode cX4_readInto 34 = .ok (.lookupswitch 71 #[(-1, 42), (228, 53), (238, 62), (243, 44)], 42) := by decide +kernel
theorem dX4_readInto_76 : decode cX4_readInto 76 = .ok (.iload_n 2, 1) := by decide +kernel
theorem dX4_readInto_77 : decode cX4_readInto 77 = .ok (.ireturn, 1) := by decide +kernel
theorem dX4_readInto_78 : decode cX4_readInto 78 = .ok (.aload_n 0, 1) := by decide +kernel
theorem dX4_readInto_79 : decode cX4_readInto 79 = .ok (.aload_n 1, 1) := by decide +kernel
theorem dX4_readInto_80 : decode cX4_readInto 80 = .ok (.invokevirtual 42, 3) := by decide +kernel
theorem dX4_readInto_83 : decode cX4_readInto 83 = .ok (.istore_n 3, 1) := by decide +kernel
theorem dX4_readInto_84 : decode cX4_readInto 84 = .ok (.goto 21, 3) := by decide +kernel
theorem dX4_readInto_87 : decode cX4_readInto 87 = .ok (.aload_n 0, 1) := by decide +kernel
theorem dX4_readInto_88 : decode cX4_readInto 88 = .ok (.aload_n 1, 1) := by decide +kernel
theorem dX4_readInto_89 : decode cX4_readInto 89 = .ok (.invokevirtual 46, 3) := by decide +kernel
theorem dX4_readInto_92 : decode cX4_readInto 92 = .ok (.istore_n 3, 1) := by decide +kernel
theorem dX4_readInto_93 : decode cX4_readInto 93 = .ok (.goto 12, 3) := by decide +kernel
theorem dX4_readInto_96 : decode cX4_readInto 96 = .ok (.aload_n 0, 1) := by decide +kernel
theorem dX4_readInto_97 : decode cX4_readInto 97 = .ok (.aload_n 1, 1) := by decide +kernel
theorem dX4_readInto_98 : decode cX4_readInto 98 = .ok (.invokevirtual 49, 3) := by decide +kernel
theorem dX4_readInto_101 : decode cX4_readInto 101 = .ok (.istore_n 3, 1) := by decide +kernel
theorem dX4_readInto_102 : decode cX4_readInto 102 = .ok (.goto 3, 3) := by decide +kernel
theorem dX4_readInto_105 : decode cX4_readInto 105 = .ok (.iload_n 3, 1) := by decide +kernel
theorem dX4_readInto_106 : decode cX4_readInto 106 = .ok (.ifCond .ne 6, 3) := by decide +kernel
theorem dX4_readInto_109 : decode cX4_readInto 109 = .ok (.goto 9, 3) := by decide +kernel
theorem dX4_readInto_112 : decode cX4_readInto 112 = .ok (.iinc 2 1, 3) := by decide +kernel
theorem dX4_readInto_115 : decode cX4_readInto 115 = .ok (.goto (-94), 3) := by decide +kernel
theorem dX4_readInto_118 : decode cX4_readInto 118 = .ok (.bipush (-10), 2) := by decide +kernel
theorem dX4_readInto_120 : decode cX4_readInto 120 = .ok (.aload_n 0, 1) := by decide +kernel
theorem dX4_readInto_121 : decode cX4_readInto 121 = .ok (.getfield 52, 3) := by decide +kernel
theorem dX4_readInto_124 : decode cX4_readInto 124 = .ok (.isub, 1) := by decide +kernel
theorem dX4_readInto_125 : decode cX4_readInto 125 = .ok (.ireturn, 1) := by decide +kernel
theorem dX4_readSailor_0 : decode cX4_readSailor 0 = .ok (.aload_n 1, 1) := by decide +kernel
theorem dX4_readSailor_1 : decode cX4_readSailor 1 = .ok (.getfield 55, 3) := by decide +kernel
theorem dX4_readSailor_4 : decode cX4_readSailor 4 = .ok (.bipush 7, 2) := by decide +kernel
theorem dX4_readSailor_6 : decode cX4_readSailor 6 = .ok (.if_icmp .lt 5, 3) := by decide +kernel
theorem dX4_readSailor_9 : decode cX4_readSailor 9 = .ok (.iconst 0, 1) := by decide +kernel
theorem dX4_readSailor_10 : decode cX4_readSailor 10 = .ok (.ireturn, 1) := by decide +kernel
theorem dX4_readSailor_11 : decode cX4_readSailor 11 = .ok (.aload_n 0, 1) := by decide +kernel
theorem dX4_readSailor_12 : decode cX4_readSailor 12 = .ok (.iconst 0, 1) := by decide +kernel
theorem dX4_readSailor_13 : decode cX4_readSailor 13 = .ok (.iconst 2, 1) := by decide +kernel
theorem dX4_readSailor_14 : decode cX4_readSailor 14 = .ok (.invokevirtual 58, 3) := by decide +kernel
theorem dX4_readSailor_17 : decode cX4_readSailor 17 = .ok (.istore_n 2, 1) := by decide +kernel
theorem dX4_readSailor_18 : decode cX4_readSailor 18 = .ok (.iload_n 2, 1) := by decide +kernel
theorem dX4_readSailor_19 : decode cX4_readSailor 19 = .ok (.bipush (-2), 2) := by decide +kernel
theorem dX4_readSailor_21 : decode cX4_readSailor 21 = .ok (.if_icmp .ne 5, 3) := by decide +kernel
theorem dX4_readSailor_24 : decode cX4_readSailor 24 = .ok (.iconst 0, 1) := by decide +kernel
theorem dX4_readSailor_25 : decode cX4_readSailor 25 = .ok (.ireturn, 1) := by decide +kernel
theorem dX4_readSailor_26 : decode cX4_readSailor 26 = .ok (.aload_n 0, 1) := by decide +kernel
theorem dX4_readSailor_27 : decode cX4_readSailor 27 = .ok (.iconst 0, 1) := by decide +kernel
theorem dX4_readSailor_28 : decode cX4_readSailor 28 = .ok (.bipush 7, 2) := by decide +kernel
theorem dX4_readSailor_30 : decode cX4_readSailor 30 = .ok (.invokevirtual 58, 3) := by decide +kernel
theorem dX4_readSailor_33 : decode cX4_readSailor 33 = .ok (.istore_n 3, 1) := by decide +kernel
theorem dX4_readSailor_34 : decode cX4_readSailor 34 = .ok (.iload_n 3, 1) := by decide +kernel
theorem dX4_readSailor_35 : decode cX4_readSailor 35 = .ok (.bipush (-2), 2) := by decide +kernel
theorem dX4_readSailor_37 : decode cX4_readSailor 37 = .ok (.if_icmp .ne 5, 3) := by decide +kernel
theorem dX4_readSailor_40 : decode cX4_readSailor 40 = .ok (.iconst 0, 1) := by decide +kernel
theorem dX4_readSailor_41 : decode cX4_readSailor 41 = .ok (.ireturn, 1) := by decide +kernel
theorem dX4_readSailor_42 : decode cX4_readSailor 42 = .ok (.aload_n 0, 1) := by decide +kernel
theorem dX4_readSailor_43 : decode cX4_readSailor 43 = .ok (.iconst 0, 1) := by decide +kernel
theorem dX4_readSailor_44 : decode cX4_readSailor 44 = .ok (.bipush 127, 2) := by decide +kernel
theorem dX4_readSailor_46 : decode cX4_readSailor 46 = .ok (.invokevirtual 58, 3) := by decide +kernel
theorem dX4_readSailor_49 : decode cX4_readSailor 49 = .ok (.istore 4, 2) := by decide +kernel
theorem dX4_readSailor_51 : decode cX4_readSailor 51 = .ok (.iload 4, 2) := by decide +kernel
theorem dX4_readSailor_53 : decode cX4_readSailor 53 = .ok (.bipush (-2), 2) := by decide +kernel
theorem dX4_readSailor_55 : decode cX4_readSailor 55 = .ok (.if_icmp .ne 5, 3) := by decide +kernel
theorem dX4_readSailor_58 : decode cX4_readSailor 58 = .ok (.iconst 0, 1) := by decide +kernel
theorem dX4_readSailor_59 : decode cX4_readSailor 59 = .ok (.ireturn, 1) := by decide +kernel
theorem dX4_readSailor_60 : decode cX4_readSailor 60 = .ok (.aload_n 1, 1) := by decide +kernel
theorem dX4_readSailor_61 : decode cX4_readSailor 61 = .ok (.iload_n 2, 1) := by decide +kernel
theorem dX4_readSailor_62 : decode cX4_readSailor 62 = .ok (.iload_n 3, 1) := by decide +kernel
theorem dX4_readSailor_63 : decode cX4_readSailor 63 = .ok (.iload 4, 2) := by decide +kernel
theorem dX4_readSailor_65 : decode cX4_readSailor 65 = .ok (.invokevirtual 62, 3) := by decide +kernel
theorem dX4_readSailor_68 : decode cX4_readSailor 68 = .ok (.aload_n 0, 1) := by decide +kernel
theorem dX4_readSailor_69 : decode cX4_readSailor 69 = .ok (.invokevirtual 66, 3) := by decide +kernel
theorem dX4_readSailor_72 : decode cX4_readSailor 72 = .ok (.ireturn, 1) := by decide +kernel
theorem dX4_readDip_0 : decode cX4_readDip 0 = .ok (.aload_n 0, 1) := by decide +kernel
theorem dX4_readDip_1 : decode cX4_readDip 1 = .ok (.getfield 31, 3) := by decide +kernel
theorem dX4_readDip_4 : decode cX4_readDip 4 = .ok (.ifCond .eq 5, 3) := by decide +kernel
theorem dX4_readDip_7 : decode cX4_readDip 7 = .ok (.iconst 0, 1) := by decide +kernel
theorem dX4_readDip_8 : decode cX4_readDip 8 = .ok (.ireturn, 1) := by decide +kernel
theorem dX4_readDip_9 : decode cX4_readDip 9 = .ok (.aload_n 0, 1) := by decide +kernel
theorem dX4_readDip_10 : decode cX4_readDip 10 = .ok (.iconst 1, 1) := by decide +kernel
theorem dX4_readDip_11 : decode cX4_readDip 11 = .ok (.putfield 31, 3) := by decide +kernel
theorem dX4_readDip_14 : decode cX4_readDip 14 = .ok (.aload_n 1, 1) := by decide +kernel
theorem dX4_readDip_15 : decode cX4_readDip 15 = .ok (.aload_n 0, 1) := by decide +kernel
theorem dX4_readDip_16 : decode cX4_readDip 16 = .ok (.iconst 1, 1) := by decide +kernel
theorem dX4_readDip_17 : decode cX4_readDip 17 = .ok (.iconst 4, 1) := by decide +kernel
theorem dX4_readDip_18 : decode cX4_readDip 18 = .ok (.invokevirtual 58, 3) := by decide +kernel
theorem dX4_readDip_21 : decode cX4_readDip 21 = .ok (.putfield 70, 3) := by decide +kernel
theorem dX4_readDip_24 : decode cX4_readDip 24 = .ok (.aload_n 1, 1) := by decide +kernel
theorem dX4_readDip_25 : decode cX4_readDip 25 = .ok (.getfield 70, 3) := by decide +kernel
theorem dX4_readDip_28 : decode cX4_readDip 28 = .ok (.bipush (-2), 2) := by decide +kernel
theorem dX4_readDip_30 : decode cX4_readDip 30 = .ok (.if_icmp .eq 14, 3) := by decide +kernel
theorem dX4_readDip_33 : decode cX4_readDip 33 = .ok (.aload_n 0, 1) := by decide +kernel
theorem dX4_readDip_34 : decode cX4_readDip 34 = .ok (.invokevirtual 66, 3) := by decide +kernel
theorem dX4_readDip_37 : decode cX4_readDip 37 = .ok (.ifCond .eq 7, 3) := by decide +kernel
theorem dX4_readDip_40 : decode cX4_readDip 40 = .ok (.iconst 1, 1) := by decide +kernel
theorem dX4_readDip_41 : decode cX4_readDip 41 = .ok (.goto 4, 3) := by decide +kernel
theorem dX4_readDip_44 : decode cX4_readDip 44 = .ok (.iconst 0, 1) := by decide +kernel
theorem dX4_readDip_45 : decode cX4_readDip 45 = .ok (.ireturn, 1) := by decide +kernel
theorem dX4_readSeats_0 : decode cX4_readSeats 0 = .ok (.aload_n 0, 1) := by decide +kernel
theorem dX4_readSeats_1 : decode cX4_readSeats 1 = .ok (.getfield 35, 3) := by decide +kernel
theorem dX4_readSeats_4 : decode cX4_readSeats 4 = .ok (.ifCond .eq 5, 3) := by decide +kernel
theorem dX4_readSeats_7 : decode cX4_readSeats 7 = .ok (.iconst 0, 1) := by decide +kernel
theorem dX4_readSeats_8 : decode cX4_readSeats 8 = .ok (.ireturn, 1) := by decide +kernel
theorem dX4_readSeats_9 : decode cX4_readSeats 9 = .ok (.aload_n 0, 1) := by decide +kernel
theorem dX4_readSeats_10 : decode cX4_readSeats 10 = .ok (.iconst 1, 1) := by decide +kernel
theorem dX4_readSeats_11 : decode cX4_readSeats 11 = .ok (.putfield 35, 3) := by decide +kernel
theorem dX4_readSeats_14 : decode cX4_readSeats 14 = .ok (.aload_n 1, 1) := by decide +kernel
theorem dX4_readSeats_15 : decode cX4_readSeats 15 = .ok (.aload_n 0, 1) := by decide +kernel
theorem dX4_readSeats_16 : decode cX4_readSeats 16 = .ok (.iconst 1, 1) := by decide +kernel
theorem dX4_readSeats_17 : decode cX4_readSeats 17 = .ok (.bipush 8, 2) := by decide +kernel
theorem dX4_readSeats_19 : decode cX4_readSeats 19 = .ok (.invokevirtual 58, 3) := by decide +kernel
theorem dX4_readSeats_22 : decode cX4_readSeats 22 = .ok (.putfield 73, 3) := by decide +kernel
theorem dX4_readSeats_25 : decode cX4_readSeats 25 = .ok (.aload_n 1, 1) := by decide +kernel
theorem dX4_readSeats_26 : decode cX4_readSeats 26 = .ok (.getfield 73, 3) := by decide +kernel
theorem dX4_readSeats_29 : decode cX4_readSeats 29 = .ok (.bipush (-2), 2) := by decide +kernel
theorem dX4_readSeats_31 : decode cX4_readSeats 31 = .ok (.if_icmp .eq 14, 3) := by decide +kernel
theorem dX4_readSeats_34 : decode cX4_readSeats 34 = .ok (.aload_n 0, 1) := by decide +kernel
theorem dX4_readSeats_35 : decode cX4_readSeats 35 = .ok (.invokevirtual 66, 3) := by decide +kernel
theorem dX4_readSeats_38 : decode cX4_readSeats 38 = .ok (.ifCond .eq 7, 3) := by decide +kernel
theorem dX4_readSeats_41 : decode cX4_readSeats 41 = .ok (.iconst 1, 1) := by decide +kernel
theorem dX4_readSeats_42 : decode cX4_readSeats 42 = .ok (.goto 4, 3) := by decide +kernel
theorem dX4_readSeats_45 : decode cX4_readSeats 45 = .ok (.iconst 0, 1) := by decide +kernel
theorem dX4_readSeats_46 : decode cX4_readSeats 46 = .ok (.ireturn, 1) := by decide +kernel
theorem dX4_itemEnds_0 : decode cX4_itemEnds 0 = .ok (.aload_n 0, 1) := by decide +kernel
theorem dX4_itemEnds_1 : decode cX4_itemEnds 1 = .ok (.invokevirtual 38, 3) := by decide +kernel
theorem dX4_itemEnds_4 : decode cX4_itemEnds 4 = .ok (.sipush 187, 3) := by decide +kernel
theorem dX4_itemEnds_7 : decode cX4_itemEnds 7 = .ok (.if_icmp .ne 7, 3) := by decide +kernel
theorem dX4_itemEnds_10 : decode cX4_itemEnds 10 = .ok (.iconst 1, 1) := by decide +kernel
theorem dX4_itemEnds_11 : decode cX4_itemEnds 11 = .ok (.goto 4, 3) := by decide +kernel
theorem dX4_itemEnds_14 : decode cX4_itemEnds 14 = .ok (.iconst 0, 1) := by decide +kernel
theorem dX4_itemEnds_15 : decode cX4_itemEnds 15 = .ok (.ireturn, 1) := by decide +kernel
theorem dX4_numberFrom_0 : decode cX4_numberFrom 0 = .ok (.aload_n 0, 1) := by decide +kernel
theorem dX4_numberFrom_1 : decode cX4_numberFrom 1 = .ok (.invokevirtual 38, 3) := by decide +kernel
theorem dX4_numberFrom_4 : decode cX4_numberFrom 4 = .ok (.istore_n 3, 1) := by decide +kernel
theorem dX4_numberFrom_5 : decode cX4_numberFrom 5 = .ok (.iload_n 3, 1) := by decide +kernel
theorem dX4_numberFrom_6 : decode cX4_numberFrom 6 = .ok (.iload_n 1, 1) := by decide +kernel
theorem dX4_numberFrom_7 : decode cX4_numberFrom 7 = .ok (.if_icmp .lt 12, 3) := by decide +kernel
theorem dX4_numberFrom_10 : decode cX4_numberFrom 10 = .ok (.iload_n 3, 1) := by decide +kernel
theorem dX4_numberFrom_11 : decode cX4_numberFrom 11 = .ok (.iload_n 2, 1) := by decide +kernel
theorem dX4_numberFrom_12 : decode cX4_numberFrom 12 = .ok (.if_icmp .gt 7, 3) := by decide +kernel
theorem dX4_numberFrom_15 : decode cX4_numberFrom 15 = .ok (.iload_n 3, 1) := by decide +kernel
theorem dX4_numberFrom_16 : decode cX4_numberFrom 16 = .ok (.goto 5, 3) := by decide +kernel
theorem dX4_numberFrom_19 : decode cX4_numberFrom 19 = .ok (.bipush (-2), 2) := by decide +kernel
theorem dX4_numberFrom_21 : decode cX4_numberFrom 21 = .ok (.ireturn, 1) := by decide +kernel
theorem dX4_next_0 : decode cX4_next 0 = .ok (.aload_n 0, 1) := by decide +kernel
theorem dX4_next_1 : decode cX4_next 1 = .ok (.getfield 28, 3) := by decide +kernel
theorem dX4_next_4 : decode cX4_next 4 = .ok (.aload_n 0, 1) := by decide +kernel
theorem dX4_next_5 : decode cX4_next 5 = .ok (.getfield 15, 3) := by decide +kernel
theorem dX4_next_8 : decode cX4_next 8 = .ok (.if_icmp .ge 32, 3) := by decide +kernel
theorem dX4_next_11 : decode cX4_next 11 = .ok (.aload_n 0, 1) := by decide +kernel
theorem dX4_next_12 : decode cX4_next 12 = .ok (.getfield 9, 3) := by decide +kernel
theorem dX4_next_15 : decode cX4_next 15 = .ok (.aload_n 0, 1) := by decide +kernel
theorem dX4_next_16 : decode cX4_next 16 = .ok (.getfield 28, 3) := by decide +kernel
theorem dX4_next_19 : decode cX4_next 19 = .ok (.invokestatic 76, 3) := by decide +kernel
theorem dX4_next_22 : decode cX4_next 22 = .ok (.bipush 32, 2) := by decide +kernel
theorem dX4_next_24 : decode cX4_next 24 = .ok (.if_icmp .ne 16, 3) := by decide +kernel
theorem dX4_next_27 : decode cX4_next 27 = .ok (.aload_n 0, 1) := by decide +kernel
theorem dX4_next_28 : decode cX4_next 28 = .ok (.dup, 1) := by decide +kernel
theorem dX4_next_29 : decode cX4_next 29 = .ok (.getfield 28, 3) := by decide +kernel
theorem dX4_next_32 : decode cX4_next 32 = .ok (.iconst 1, 1) := by decide +kernel
theorem dX4_next_33 : decode cX4_next 33 = .ok (.iadd, 1) := by decide +kernel
theorem dX4_next_34 : decode cX4_next 34 = .ok (.putfield 28, 3) := by decide +kernel
theorem dX4_next_37 : decode cX4_next 37 = .ok (.goto (-37), 3) := by decide +kernel
theorem dX4_next_40 : decode cX4_next 40 = .ok (.aload_n 0, 1) := by decide +kernel
theorem dX4_next_41 : decode cX4_next 41 = .ok (.aload_n 0, 1) := by decide +kernel
theorem dX4_next_42 : decode cX4_next 42 = .ok (.getfield 28, 3) := by decide +kernel
theorem dX4_next_45 : decode cX4_next 45 = .ok (.putfield 52, 3) := by decide +kernel
theorem dX4_next_48 : decode cX4_next 48 = .ok (.aload_n 0, 1) := by decide +kernel
theorem dX4_next_49 : decode cX4_next 49 = .ok (.getfield 28, 3) := by decide +kernel
theorem dX4_next_52 : decode cX4_next 52 = .ok (.aload_n 0, 1) := by decide +kernel
theorem dX4_next_53 : decode cX4_next 53 = .ok (.getfield 15, 3) := by decide +kernel
theorem dX4_next_56 : decode cX4_next 56 = .ok (.if_icmp .lt 5, 3) := by decide +kernel
theorem dX4_next_59 : decode cX4_next 59 = .ok (.iconst (-1), 1) := by decide +kernel
theorem dX4_next_60 : decode cX4_next 60 = .ok (.ireturn, 1) := by decide +kernel
theorem dX4_next_61 : decode cX4_next 61 = .ok (.aload_n 0, 1) := by decide +kernel
theorem dX4_next_62 : decode cX4_next 62 = .ok (.getfield 9, 3) := by decide +kernel
theorem dX4_next_65 : decode cX4_next 65 = .ok (.aload_n 0, 1) := by decide +kernel
theorem dX4_next_66 : decode cX4_next 66 = .ok (.getfield 28, 3) := by decide +kernel
theorem dX4_next_69 : decode cX4_next 69 = .ok (.invokestatic 76, 3) := by decide +kernel
theorem dX4_next_72 : decode cX4_next 72 = .ok (.istore_n 1, 1) := by decide +kernel
theorem dX4_next_73 : decode cX4_next 73 = .ok (.iload_n 1, 1) := by decide +kernel
theorem dX4_next_74 : decode cX4_next 74 = .ok (.invokestatic 80, 3) := by decide +kernel
theorem dX4_next_77 : decode cX4_next 77 = .ok (.ifCond .eq 8, 3) := by decide +kernel
theorem dX4_next_80 : decode cX4_next 80 = .ok (.aload_n 0, 1) := by decide +kernel
theorem dX4_next_81 : decode cX4_next 81 = .ok (.invokevirtual 84, 3) := by decide +kernel
theorem dX4_next_84 : decode cX4_next 84 = .ok (.ireturn, 1) := by decide +kernel
theorem dX4_next_85 : decode cX4_next 85 = .ok (.aload_n 0, 1) := by decide +kernel
theorem dX4_next_86 : decode cX4_next 86 = .ok (.dup, 1) := by decide +kernel
theorem dX4_next_87 : decode cX4_next 87 = .ok (.getfield 28, 3) := by decide +kernel
theorem dX4_next_90 : decode cX4_next 90 = .ok (.iconst 1, 1) := by decide +kernel
theorem dX4_next_91 : decode cX4_next 91 = .ok (.iadd, 1) := by decide +kernel
theorem dX4_next_92 : decode cX4_next 92 = .ok (.putfield 28, 3) := by decide +kernel
theorem dX4_next_95 : decode cX4_next 95 = .ok (.iload_n 1, 1) := by decide +kernel
theorem dX4_next_96 : decode cX4_next 96 = .ok (.bipush 115, 2) := by decide +kernel
theorem dX4_next_98 : decode cX4_next 98 = .ok (.if_icmp .eq 21, 3) := by decide +kernel
theorem dX4_next_101 : decode cX4_next 101 = .ok (.iload_n 1, 1) := by decide +kernel
theorem dX4_next_102 : decode cX4_next 102 = .ok (.bipush 100, 2) := by decide +kernel
theorem dX4_next_104 : decode cX4_next 104 = .ok (.if_icmp .eq 15, 3) := by decide +kernel
theorem dX4_next_107 : decode cX4_next 107 = .ok (.iload_n 1, 1) := by decide +kernel
theorem dX4_next_108 : decode cX4_next 108 = .ok (.bipush 110, 2) := by decide +kernel
theorem dX4_next_110 : decode cX4_next 110 = .ok (.if_icmp .eq 9, 3) := by decide +kernel
theorem dX4_next_113 : decode cX4_next 113 = .ok (.iload_n 1, 1) := by decide +kernel
theorem dX4_next_114 : decode cX4_next 114 = .ok (.bipush 59, 2) := by decide +kernel
theorem dX4_next_116 : decode cX4_next 116 = .ok (.if_icmp .ne 7, 3) := by decide +kernel
theorem dX4_next_119 : decode cX4_next 119 = .ok (.iconst 1, 1) := by decide +kernel
theorem dX4_next_120 : decode cX4_next 120 = .ok (.goto 4, 3) := by decide +kernel
theorem dX4_next_123 : decode cX4_next 123 = .ok (.iconst 0, 1) := by decide +kernel
theorem dX4_next_124 : decode cX4_next 124 = .ok (.istore_n 2, 1) := by decide +kernel
theorem dX4_next_125 : decode cX4_next 125 = .ok (.iload_n 2, 1) := by decide +kernel
theorem dX4_next_126 : decode cX4_next 126 = .ok (.ifCond .eq 11, 3) := by decide +kernel
theorem dX4_next_129 : decode cX4_next 129 = .ok (.sipush 128, 3) := by decide +kernel
theorem dX4_next_132 : decode cX4_next 132 = .ok (.iload_n 1, 1) := by decide +kernel
theorem dX4_next_133 : decode cX4_next 133 = .ok (.iadd, 1) := by decide +kernel
theorem dX4_next_134 : decode cX4_next 134 = .ok (.goto 5, 3) := by decide +kernel
theorem dX4_next_137 : decode cX4_next 137 = .ok (.bipush (-2), 2) := by decide +kernel
theorem dX4_next_139 : decode cX4_next 139 = .ok (.ireturn, 1) := by decide +kernel
theorem dX4_nextNumber_0 : decode cX4_nextNumber 0 = .ok (.aload_n 0, 1) := by decide +kernel
theorem dX4_nextNumber_1 : decode cX4_nextNumber 1 = .ok (.getfield 9, 3) := by decide +kernel
theorem dX4_nextNumber_4 : decode cX4_nextNumber 4 = .ok (.aload_n 0, 1) := by decide +kernel
theorem dX4_nextNumber_5 : decode cX4_nextNumber 5 = .ok (.getfield 28, 3) := by decide +kernel
theorem dX4_nextNumber_8 : decode cX4_nextNumber 8 = .ok (.invokestatic 76, 3) := by decide +kernel
theorem dX4_nextNumber_11 : decode cX4_nextNumber 11 = .ok (.bipush 48, 2) := by decide +kernel
theorem dX4_nextNumber_13 : decode cX4_nextNumber 13 = .ok (.if_icmp .ne 7, 3) := by decide +kernel
theorem dX4_nextNumber_16 : decode cX4_nextNumber 16 = .ok (.iconst 1, 1) := by decide +kernel
theorem dX4_nextNumber_17 : decode cX4_nextNumber 17 = .ok (.goto 4, 3) := by decide +kernel
theorem dX4_nextNumber_20 : decode cX4_nextNumber 20 = .ok (.iconst 0, 1) := by decide +kernel
theorem dX4_nextNumber_21 : decode cX4_nextNumber 21 = .ok (.istore_n 1, 1) := by decide +kernel
theorem dX4_nextNumber_22 : decode cX4_nextNumber 22 = .ok (.iconst 0, 1) := by decide +kernel
theorem dX4_nextNumber_23 : decode cX4_nextNumber 23 = .ok (.istore_n 2, 1) := by decide +kernel
theorem dX4_nextNumber_24 : decode cX4_nextNumber 24 = .ok (.aload_n 0, 1) := by decide +kernel
theorem dX4_nextNumber_25 : decode cX4_nextNumber 25 = .ok (.getfield 28, 3) := by decide +kernel
theorem dX4_nextNumber_28 : decode cX4_nextNumber 28 = .ok (.aload_n 0, 1) := by decide +kernel
theorem dX4_nextNumber_29 : decode cX4_nextNumber 29 = .ok (.getfield 15, 3) := by decide +kernel
theorem dX4_nextNumber_32 : decode cX4_nextNumber 32 = .ok (.if_icmp .ge 59, 3) := by decide +kernel
theorem dX4_nextNumber_35 : decode cX4_nextNumber 35 = .ok (.aload_n 0, 1) := by decide +kernel
theorem dX4_nextNumber_36 : decode cX4_nextNumber 36 = .ok (.getfield 9, 3) := by decide +kernel
theorem dX4_nextNumber_39 : decode cX4_nextNumber 39 = .ok (.aload_n 0, 1) := by decide +kernel
theorem dX4_nextNumber_40 : decode cX4_nextNumber 40 = .ok (.getfield 28, 3) := by decide +kernel
theorem dX4_nextNumber_43 : decode cX4_nextNumber 43 = .ok (.invokestatic 76, 3) := by decide +kernel
theorem dX4_nextNumber_46 : decode cX4_nextNumber 46 = .ok (.invokestatic 80, 3) := by decide +kernel
theorem dX4_nextNumber_49 : decode cX4_nextNumber 49 = .ok (.ifCond .eq 42, 3) := by decide +kernel
theorem dX4_nextNumber_52 : decode cX4_nextNumber 52 = .ok (.iload_n 2, 1) := by decide +kernel
theorem dX4_nextNumber_53 : decode cX4_nextNumber 53 = .ok (.bipush 10, 2) := by decide +kernel
theorem dX4_nextNumber_55 : decode cX4_nextNumber 55 = .ok (.imul, 1) := by decide +kernel
theorem dX4_nextNumber_56 : decode cX4_nextNumber 56 = .ok (.aload_n 0, 1) := by decide +kernel
theorem dX4_nextNumber_57 : decode cX4_nextNumber 57 = .ok (.getfield 9, 3) := by decide +kernel
theorem dX4_nextNumber_60 : decode cX4_nextNumber 60 = .ok (.aload_n 0, 1) := by decide +kernel
theorem dX4_nextNumber_61 : decode cX4_nextNumber 61 = .ok (.getfield 28, 3) := by decide +kernel
theorem dX4_nextNumber_64 : decode cX4_nextNumber 64 = .ok (.invokestatic 76, 3) := by decide +kernel
theorem dX4_nextNumber_67 : decode cX4_nextNumber 67 = .ok (.iadd, 1) := by decide +kernel
theorem dX4_nextNumber_68 : decode cX4_nextNumber 68 = .ok (.bipush 48, 2) := by decide +kernel
theorem dX4_nextNumber_70 : decode cX4_nextNumber 70 = .ok (.isub, 1) := by decide +kernel
theorem dX4_nextNumber_71 : decode cX4_nextNumber 71 = .ok (.sipush 128, 3) := by decide +kernel
theorem dX4_nextNumber_74 : decode cX4_nextNumber 74 = .ok (.invokestatic 87, 3) := by decide +kernel
theorem dX4_nextNumber_77 : decode cX4_nextNumber 77 = .ok (.istore_n 2, 1) := by decide +kernel
theorem dX4_nextNumber_78 : decode cX4_nextNumber 78 = .ok (.aload_n 0, 1) := by decide +kernel
theorem dX4_nextNumber_79 : decode cX4_nextNumber 79 = .ok (.dup, 1) := by decide +kernel
theorem dX4_nextNumber_80 : decode cX4_nextNumber 80 = .ok (.getfield 28, 3) := by decide +kernel
theorem dX4_nextNumber_83 : decode cX4_nextNumber 83 = .ok (.iconst 1, 1) := by decide +kernel
theorem dX4_nextNumber_84 : decode cX4_nextNumber 84 = .ok (.iadd, 1) := by decide +kernel
theorem dX4_nextNumber_85 : decode cX4_nextNumber 85 = .ok (.putfield 28, 3) := by decide +kernel
theorem dX4_nextNumber_88 : decode cX4_nextNumber 88 = .ok (.goto (-64), 3) := by decide +kernel
theorem dX4_nextNumber_91 : decode cX4_nextNumber 91 = .ok (.iload_n 2, 1) := by decide +kernel
theorem dX4_nextNumber_92 : decode cX4_nextNumber 92 = .ok (.bipush 127, 2) := by decide +kernel
theorem dX4_nextNumber_94 : decode cX4_nextNumber 94 = .ok (.if_icmp .gt 24, 3) := by decide +kernel
theorem dX4_nextNumber_97 : decode cX4_nextNumber 97 = .ok (.iload_n 1, 1) := by decide +kernel
theorem dX4_nextNumber_98 : decode cX4_nextNumber 98 = .ok (.ifCond .eq 16, 3) := by decide +kernel
theorem dX4_nextNumber_101 : decode cX4_nextNumber 101 = .ok (.aload_n 0, 1) := by decide +kernel
theorem dX4_nextNumber_102 : decode cX4_nextNumber 102 = .ok (.getfield 28, 3) := by decide +kernel
theorem dX4_nextNumber_105 : decode cX4_nextNumber 105 = .ok (.aload_n 0, 1) := by decide +kernel
theorem dX4_nextNumber_106 : decode cX4_nextNumber 106 = .ok (.getfield 52, 3) := by decide +kernel
theorem dX4_nextNumber_109 : decode cX4_nextNumber 109 = .ok (.isub, 1) := by decide +kernel
theorem dX4_nextNumber_110 : decode cX4_nextNumber 110 = .ok (.iconst 1, 1) := by decide +kernel
theorem dX4_nextNumber_111 : decode cX4_nextNumber 111 = .ok (.if_icmp .gt 7, 3) := by decide +kernel
theorem dX4_nextNumber_114 : decode cX4_nextNumber 114 = .ok (.iconst 1, 1) := by decide +kernel
theorem dX4_nextNumber_115 : decode cX4_nextNumber 115 = .ok (.goto 4, 3) := by decide +kernel
theorem dX4_nextNumber_118 : decode cX4_nextNumber 118 = .ok (.iconst 0, 1) := by decide +kernel
theorem dX4_nextNumber_119 : decode cX4_nextNumber 119 = .ok (.istore_n 3, 1) := by decide +kernel
theorem dX4_nextNumber_120 : decode cX4_nextNumber 120 = .ok (.iload_n 3, 1) := by decide +kernel
theorem dX4_nextNumber_121 : decode cX4_nextNumber 121 = .ok (.ifCond .eq 7, 3) := by decide +kernel
theorem dX4_nextNumber_124 : decode cX4_nextNumber 124 = .ok (.iload_n 2, 1) := by decide +kernel
theorem dX4_nextNumber_125 : decode cX4_nextNumber 125 = .ok (.goto 5, 3) := by decide +kernel
theorem dX4_nextNumber_128 : decode cX4_nextNumber 128 = .ok (.bipush (-2), 2) := by decide +kernel
theorem dX4_nextNumber_130 : decode cX4_nextNumber 130 = .ok (.ireturn, 1) := by decide +kernel
theorem dX4_isDigit_0 : decode cX4_isDigit 0 = .ok (.iload_n 0, 1) := by decide +kernel
theorem dX4_isDigit_1 : decode cX4_isDigit 1 = .ok (.bipush 48, 2) := by decide +kernel
theorem dX4_isDigit_3 : decode cX4_isDigit 3 = .ok (.if_icmp .lt 13, 3) := by decide +kernel
theorem dX4_isDigit_6 : decode cX4_isDigit 6 = .ok (.iload_n 0, 1) := by decide +kernel
theorem dX4_isDigit_7 : decode cX4_isDigit 7 = .ok (.bipush 57, 2) := by decide +kernel
theorem dX4_isDigit_9 : decode cX4_isDigit 9 = .ok (.if_icmp .gt 7, 3) := by decide +kernel
theorem dX4_isDigit_12 : decode cX4_isDigit 12 = .ok (.iconst 1, 1) := by decide +kernel
theorem dX4_isDigit_13 : decode cX4_isDigit 13 = .ok (.goto 4, 3) := by decide +kernel
theorem dX4_isDigit_16 : decode cX4_isDigit 16 = .ok (.iconst 0, 1) := by decide +kernel
theorem dX4_isDigit_17 : decode cX4_isDigit 17 = .ok (.ireturn, 1) := by decide +kernel
theorem dX5_init_0 : decode cX5_init 0 = .ok (.aload_n 0, 1) := by decide +kernel
theorem dX5_init_1 : decode cX5_init 1 = .ok (.invokespecial 1, 3) := by decide +kernel
theorem dX5_init_4 : decode cX5_init 4 = .ok (.aload_n 0, 1) := by decide +kernel
theorem dX5_init_5 : decode cX5_init 5 = .ok (.new 7, 3) := by decide +kernel
theorem dX5_init_8 : decode cX5_init 8 = .ok (.dup, 1) := by decide +kernel
theorem dX5_init_9 : decode cX5_init 9 = .ok (.invokespecial 9, 3) := by decide +kernel
theorem dX5_init_12 : decode cX5_init 12 = .ok (.putfield 10, 3) := by decide +kernel
theorem dX5_init_15 : decode cX5_init 15 = .ok (.aload_n 0, 1) := by decide +kernel
theorem dX5_init_16 : decode cX5_init 16 = .ok (.new 16, 3) := by decide +kernel
theorem dX5_init_19 : decode cX5_init 19 = .ok (.dup, 1) := by decide +kernel
theorem dX5_init_20 : decode cX5_init 20 = .ok (.invokespecial 18, 3) := by decide +kernel
theorem dX5_init_23 : decode cX5_init 23 = .ok (.putfield 19, 3) := by decide +kernel
theorem dX5_init_26 : decode cX5_init 26 = .ok (.aload_n 0, 1) := by decide +kernel
theorem dX5_init_27 : decode cX5_init 27 = .ok (.new 16, 3) := by decide +kernel
theorem dX5_init_30 : decode cX5_init 30 = .ok (.dup, 1) := by decide +kernel
theorem dX5_init_31 : decode cX5_init 31 = .ok (.invokespecial 18, 3) := by decide +kernel
theorem dX5_init_34 : decode cX5_init 34 = .ok (.putfield 23, 3) := by decide +kernel
theorem dX5_init_37 : decode cX5_init 37 = .ok (.aload_n 0, 1) := by decide +kernel
theorem dX5_init_38 : decode cX5_init 38 = .ok (.new 26, 3) := by decide +kernel
theorem dX5_init_41 : decode cX5_init 41 = .ok (.dup, 1) := by decide +kernel
theorem dX5_init_42 : decode cX5_init 42 = .ok (.invokespecial 28, 3) := by decide +kernel
theorem dX5_init_45 : decode cX5_init 45 = .ok (.putfield 29, 3) := by decide +kernel
theorem dX5_init_48 : decode cX5_init 48 = .ok (.aload_n 0, 1) := by decide +kernel
theorem dX5_init_49 : decode cX5_init 49 = .ok (.new 33, 3) := by decide +kernel
theorem dX5_init_52 : decode cX5_init 52 = .ok (.dup, 1) := by decide +kernel
theorem dX5_init_53 : decode cX5_init 53 = .ok (.invokespecial 35, 3) := by decide +kernel
theorem dX5_init_56 : decode cX5_init 56 = .ok (.putfield 36, 3) := by decide +kernel
theorem dX5_init_59 : decode cX5_init 59 = .ok (.aload_n 0, 1) := by decide +kernel
theorem dX5_init_60 : decode cX5_init 60 = .ok (.new 26, 3) := by decide +kernel
theorem dX5_init_63 : decode cX5_init 63 = .ok (.dup, 1) := by decide +kernel
theorem dX5_init_64 : decode cX5_init 64 = .ok (.invokespecial 28, 3) := by decide +kernel
theorem dX5_init_67 : decode cX5_init 67 = .ok (.putfield 40, 3) := by decide +kernel
theorem dX5_init_70 : decode cX5_init 70 = .ok (.aload_n 0, 1) := by decide +kernel
theorem dX5_init_71 : decode cX5_init 71 = .ok (.new 26, 3) := by decide +kernel
theorem dX5_init_74 : decode cX5_init 74 = .ok (.dup, 1) := by decide +kernel
theorem dX5_init_75 : decode cX5_init 75 = .ok (.invokespecial 28, 3) := by decide +kernel
theorem dX5_init_78 : decode cX5_init 78 = .ok (.putfield 43, 3) := by decide +kernel
theorem dX5_init_81 : decode cX5_init 81 = .ok (.aload_n 0, 1) := by decide +kernel
theorem dX5_init_82 : decode cX5_init 82 = .ok (.new 46, 3) := by decide +kernel
theorem dX5_init_85 : decode cX5_init 85 = .ok (.dup, 1) := by decide +kernel
theorem dX5_init_86 : decode cX5_init 86 = .ok (.invokespecial 48, 3) := by decide +kernel
theorem dX5_init_89 : decode cX5_init 89 = .ok (.putfield 49, 3) := by decide +kernel
theorem dX5_init_92 : decode cX5_init 92 = .ok (.return_, 1) := by decide +kernel
theorem dX5_type_0 : decode cX5_type 0 = .ok (.iload_n 1, 1) := by decide +kernel
theorem dX5_type_1 : decode cX5_type 1 = .ok (.ifCond .lt 10, 3) := by decide +kernel
theorem dX5_type_4 : decode cX5_type 4 = .ok (.iload_n 1, 1) := by decide +kernel
theorem dX5_type_5 : decode cX5_type 5 = .ok (.sipush 255, 3) := by decide +kernel
theorem dX5_type_8 : decode cX5_type 8 = .ok (.if_icmp .le 5, 3) := by decide +kernel
theorem dX5_type_11 : decode cX5_type 11 = .ok (.iconst (-1), 1) := by decide +kernel
theorem dX5_type_12 : decode cX5_type 12 = .ok (.ireturn, 1) := by decide +kernel
theorem dX5_type_13 : decode cX5_type 13 = .ok (.aload_n 0, 1) := by decide +kernel
theorem dX5_type_14 : decode cX5_type 14 = .ok (.getfield 10, 3) := by decide +kernel
theorem dX5_type_17 : decode cX5_type 17 = .ok (.iload_n 1, 1) := by decide +kernel
theorem dX5_type_18 : decode cX5_type 18 = .ok (.invokevirtual 53, 3) := by decide +kernel
theorem dX5_type_21 : decode cX5_type 21 = .ok (.ifCond .eq 13, 3) := by decide +kernel
theorem dX5_type_24 : decode cX5_type 24 = .ok (.aload_n 0, 1) := by decide +kernel
theorem dX5_type_25 : decode cX5_type 25 = .ok (.getfield 10, 3) := by decide +kernel
theorem dX5_type_28 : decode cX5_type 28 = .ok (.getfield 57, 3) := by decide +kernel
theorem dX5_type_31 : decode cX5_type 31 = .ok (.goto 5, 3) := by decide +kernel
theorem dX5_type_34 : decode cX5_type 34 = .ok (.bipush (-3), 2) := by decide +kernel
theorem dX5_type_36 : decode cX5_type 36 = .ok (.ireturn, 1) := by decide +kernel
theorem dX5_clear_0 : decode cX5_clear 0 = .ok (.aload_n 0, 1) := by decide +kernel
theorem dX5_clear_1 : decode cX5_clear 1 = .ok (.getfield 10, 3) := by decide +kernel
theorem dX5_clear_4 : decode cX5_clear 4 = .ok (.getfield 57, 3) := by decide +kernel
theorem dX5_clear_7 : decode cX5_clear 7 = .ok (.istore_n 1, 1) := by decide +kernel
theorem dX5_clear_8 : decode cX5_clear 8 = .ok (.aload_n 0, 1) := by decide +kernel
theorem dX5_clear_9 : decode cX5_clear 9 = .ok (.getfield 10, 3) := by decide +kernel
theorem dX5_clear_12 : decode cX5_clear 12 = .ok (.iconst 0, 1) := by decide +kernel
theorem dX5_clear_13 : decode cX5_clear 13 = .ok (.putfield 57, 3) := by decide +kernel
theorem dX5_clear_16 : decode cX5_clear 16 = .ok (.iload_n 1, 1) := by decide +kernel
theorem dX5_clear_17 : decode cX5_clear 17 = .ok (.ireturn, 1) := by decide +kernel
theorem dX5_crew_0 : decode cX5_crew 0 = .ok (.aload_n 0, 1) := by decide +kernel
theorem dX5_crew_1 : decode cX5_crew 1 = .ok (.getfield 10, 3) := by decide +kernel
theorem dX5_crew_4 : decode cX5_crew 4 = .ok (.aload_n 0, 1) := by decide +kernel
theorem dX5_crew_5 : decode cX5_crew 5 = .ok (.getfield 23, 3) := by decide +kernel
theorem dX5_crew_8 : decode cX5_crew 8 = .ok (.invokevirtual 61, 3) := by decide +kernel
theorem dX5_crew_11 : decode cX5_crew 11 = .ok (.istore_n 1, 1) := by decide +kernel
theorem dX5_crew_12 : decode cX5_crew 12 = .ok (.iload_n 1, 1) := by decide +kernel
theorem dX5_crew_13 : decode cX5_crew 13 = .ok (.ifCond .ge 5, 3) := by decide +kernel
theorem dX5_crew_16 : decode cX5_crew 16 = .ok (.iload_n 1, 1) := by decide +kernel
theorem dX5_crew_17 : decode cX5_crew 17 = .ok (.ireturn, 1) := by decide +kernel
theorem dX5_crew_18 : decode cX5_crew 18 = .ok (.aload_n 0, 1) := by decide +kernel
theorem dX5_crew_19 : decode cX5_crew 19 = .ok (.getfield 19, 3) := by decide +kernel
theorem dX5_crew_22 : decode cX5_crew 22 = .ok (.aload_n 0, 1) := by decide +kernel
theorem dX5_crew_23 : decode cX5_crew 23 = .ok (.getfield 23, 3) := by decide +kernel
theorem dX5_crew_26 : decode cX5_crew 26 = .ok (.invokevirtual 65, 3) := by decide +kernel
theorem dX5_crew_29 : decode cX5_crew 29 = .ok (.aload_n 0, 1) := by decide +kernel
theorem dX5_crew_30 : decode cX5_crew 30 = .ok (.getfield 10, 3) := by decide +kernel
theorem dX5_crew_33 : decode cX5_crew 33 = .ok (.iconst 0, 1) := by decide +kernel
theorem dX5_crew_34 : decode cX5_crew 34 = .ok (.putfield 57, 3) := by decide +kernel
theorem dX5_crew_37 : decode cX5_crew 37 = .ok (.aload_n 0, 1) := by decide +kernel
theorem dX5_crew_38 : decode cX5_crew 38 = .ok (.getfield 29, 3) := by decide +kernel
theorem dX5_crew_41 : decode cX5_crew 41 = .ok (.invokevirtual 69, 3) := by decide +kernel
theorem dX5_crew_44 : decode cX5_crew 44 = .ok (.aload_n 0, 1) := by decide +kernel
theorem dX5_crew_45 : decode cX5_crew 45 = .ok (.getfield 36, 3) := by decide +kernel
theorem dX5_crew_48 : decode cX5_crew 48 = .ok (.invokevirtual 72, 3) := by decide +kernel
theorem dX5_crew_51 : decode cX5_crew 51 = .ok (.aload_n 0, 1) := by decide +kernel
theorem dX5_crew_52 : decode cX5_crew 52 = .ok (.iconst 0, 1) := by decide +kernel
theorem dX5_crew_53 : decode cX5_crew 53 = .ok (.putfield 75, 3) := by decide +kernel
theorem dX5_crew_56 : decode cX5_crew 56 = .ok (.iload_n 1, 1) := by decide +kernel
theorem dX5_crew_57 : decode cX5_crew 57 = .ok (.ireturn, 1) := by decide +kernel
theorem dX5_sailor_0 : decode cX5_sailor 0 = .ok (.aload_n 0, 1) := by decide +kernel
theorem dX5_sailor_1 : decode cX5_sailor 1 = .ok (.iload_n 1, 1) := by decide +kernel
theorem dX5_sailor_2 : decode cX5_sailor 2 = .ok (.invokevirtual 78, 3) := by decide +kernel
theorem dX5_sailor_5 : decode cX5_sailor 5 = .ok (.ifCond .ne 5, 3) := by decide +kernel
theorem dX5_sailor_8 : decode cX5_sailor 8 = .ok (.iconst (-1), 1) := by decide +kernel
theorem dX5_sailor_9 : decode cX5_sailor 9 = .ok (.ireturn, 1) := by decide +kernel
theorem dX5_sailor_10 : decode cX5_sailor 10 = .ok (.iload_n 2, 1) := by decide +kernel
theorem dX5_sailor_11 : decode cX5_sailor 11 = .ok (.tableswitch 113 0 5 #[37, 49, 61, 70, 90, 99], 37) := by decide +kernel
theorem dX5_sailor_48 : decode cX5_sailor 48 = .ok (.aload_n 0, 1) := by decide +kernel
theorem dX5_sailor_49 : decode cX5_sailor 49 = .ok (.getfield 19, 3) := by decide +kernel
theorem dX5_sailor_52 : decode cX5_sailor 52 = .ok (.getfield 81, 3) := by decide +kernel
theorem dX5_sailor_55 : decode cX5_sailor 55 = .ok (.iload_n 1, 1) := by decide +kernel
theorem dX5_sailor_56 : decode cX5_sailor 56 = .ok (.invokestatic 85, 3) := by decide +kernel
theorem dX5_sailor_59 : decode cX5_sailor 59 = .ok (.ireturn, 1) := by decide +kernel
theorem dX5_sailor_60 : decode cX5_sailor 60 = .ok (.aload_n 0, 1) := by decide +kernel
theorem dX5_sailor_61 : decode cX5_sailor 61 = .ok (.getfield 19, 3) := by decide +kernel
theorem dX5_sailor_64 : decode cX5_sailor 64 = .ok (.getfield 89, 3) := by decide +kernel
theorem dX5_sailor_67 : decode cX5_sailor 67 = .ok (.iload_n 1, 1) := by decide +kernel
theorem dX5_sailor_68 : decode cX5_sailor 68 = .ok (.invokestatic 85, 3) := by decide +kernel
theorem dX5_sailor_71 : decode cX5_sailor 71 = .ok (.ireturn, 1) := by decide +kernel
theorem dX5_sailor_72 : decode cX5_sailor 72 = .ok (.aload_n 0, 1) := by decide +kernel
theorem dX5_sailor_73 : decode cX5_sailor 73 = .ok (.getfield 19, 3) := by decide +kernel
theorem dX5_sailor_76 : decode cX5_sailor 76 = .ok (.iload_n 1, 1) := by decide +kernel
theorem dX5_sailor_77 : decode cX5_sailor 77 = .ok (.invokevirtual 92, 3) := by decide +kernel
theorem dX5_sailor_80 : decode cX5_sailor 80 = .ok (.ireturn, 1) := by decide +kernel
theorem dX5_sailor_81 : decode cX5_sailor 81 = .ok (.aload_n 0, 1) := by decide +kernel
theorem dX5_sailor_82 : decode cX5_sailor 82 = .ok (.getfield 29, 3) := by decide +kernel
theorem dX5_sailor_85 : decode cX5_sailor 85 = .ok (.getfield 96, 3) := by decide +kernel
theorem dX5_sailor_88 : decode cX5_sailor 88 = .ok (.iload_n 1, 1) := by decide +kernel
theorem dX5_sailor_89 : decode cX5_sailor 89 = .ok (.invokestatic 99, 3) := by decide +kernel
theorem dX5_sailor_92 : decode cX5_sailor 92 = .ok (.ifCond .eq 7, 3) := by decide +kernel
theorem dX5_sailor_95 : decode cX5_sailor 95 = .ok (.iconst 1, 1) := by decide +kernel
theorem dX5_sailor_96 : decode cX5_sailor 96 = .ok (.goto 4, 3) := by decide +kernel
theorem dX5_sailor_99 : decode cX5_sailor 99 = .ok (.iconst 0, 1) := by decide +kernel
theorem dX5_sailor_100 : decode cX5_sailor 100 = .ok (.ireturn, 1) := by decide +kernel
theorem dX5_sailor_101 : decode cX5_sailor 101 = .ok (.aload_n 0, 1) := by decide +kernel
theorem dX5_sailor_102 : decode cX5_sailor 102 = .ok (.getfield 29, 3) := by decide +kernel
theorem dX5_sailor_105 : decode cX5_sailor 105 = .ok (.iload_n 1, 1) := by decide +kernel
theorem dX5_sailor_106 : decode cX5_sailor 106 = .ok (.invokevirtual 103, 3) := by decide +kernel
theorem dX5_sailor_109 : decode cX5_sailor 109 = .ok (.ireturn, 1) := by decide +kernel
theorem dX5_sailor_110 : decode cX5_sailor 110 = .ok (.aload_n 0, 1) := by decide +kernel
theorem dX5_sailor_111 : decode cX5_sailor 111 = .ok (.iload_n 1, 1) := by decide +kernel
theorem dX5_sailor_112 : decode cX5_sailor 112 = .ok (.invokevirtual 106, 3) := by decide +kernel
theorem dX5_sailor_115 : decode cX5_sailor 115 = .ok (.ifCond .eq 7, 3) := by decide +kernel
theorem dX5_sailor_118 : decode cX5_sailor 118 = .ok (.iconst 1, 1) := by decide +kernel
theorem dX5_sailor_119 : decode cX5_sailor 119 = .ok (.goto 4, 3) := by decide +kernel
theorem dX5_sailor_122 : decode cX5_sailor 122 = .ok (.iconst 0, 1) := by decide +kernel
theorem dX5_sailor_123 : decode cX5_sailor 123 = .ok (.ireturn, 1) := by decide +kernel
theorem dX5_sailor_124 : decode cX5_sailor 124 = .ok (.iconst (-1), 1) := by decide +kernel
theorem dX5_sailor_125 : decode cX5_sailor 125 = .ok (.ireturn, 1) := by decide +kernel
theorem dX5_seat_0 : decode cX5_seat 0 = .ok (.aload_n 0, 1) := by decide +kernel
theorem dX5_seat_1 : decode cX5_seat 1 = .ok (.iload_n 1, 1) := by decide +kernel
theorem dX5_seat_2 : decode cX5_seat 2 = .ok (.invokevirtual 109, 3) := by decide +kernel
theorem dX5_seat_5 : decode cX5_seat 5 = .ok (.ifCond .ne 5, 3) := by decide +kernel
theorem dX5_seat_8 : decode cX5_seat 8 = .ok (.iconst (-1), 1) := by decide +kernel
theorem dX5_seat_9 : decode cX5_seat 9 = .ok (.ireturn, 1) := by decide +kernel
theorem dX5_seat_10 : decode cX5_seat 10 = .ok (.iload_n 2, 1) := by decide +kernel
theorem dX5_seat_11 : decode cX5_seat 11 = .ok (.lookupswitch 49 #[(0, 25), (1, 37)], 25) := by decide +kernel
theorem dX5_seat_36 : decode cX5_seat 36 = .ok (.aload_n 0, 1) := by decide +kernel
theorem dX5_seat_37 : decode cX5_seat 37 = .ok (.getfield 29, 3) := by decide +kernel
theorem dX5_seat_40 : decode cX5_seat 40 = .ok (.getfield 112, 3) := by decide +kernel
theorem dX5_seat_43 : decode cX5_seat 43 = .ok (.iload_n 1, 1) := by decide +kernel
theorem dX5_seat_44 : decode cX5_seat 44 = .ok (.invokestatic 85, 3) := by decide +kernel
theorem dX5_seat_47 : decode cX5_seat 47 = .ok (.ireturn, 1) := by decide +kernel
theorem dX5_seat_48 : decode cX5_seat 48 = .ok (.aload_n 0, 1) := by decide +kernel
theorem dX5_seat_49 : decode cX5_seat 49 = .ok (.getfield 29, 3) := by decide +kernel
theorem dX5_seat_52 : decode cX5_seat 52 = .ok (.getfield 115, 3) := by decide +kernel
theorem dX5_seat_55 : decode cX5_seat 55 = .ok (.iload_n 1, 1) := by decide +kernel
theorem dX5_seat_56 : decode cX5_seat 56 = .ok (.invokestatic 85, 3) := by decide +kernel
theorem dX5_seat_59 : decode cX5_seat 59 = .ok (.ireturn, 1) := by decide +kernel
theorem dX5_seat_60 : decode cX5_seat 60 = .ok (.iconst (-1), 1) := by decide +kernel
theorem dX5_seat_61 : decode cX5_seat 61 = .ok (.ireturn, 1) := by decide +kernel
theorem dX5_now_0 : decode cX5_now 0 = .ok (.iload_n 1, 1) := by decide +kernel
theorem dX5_now_1 : decode cX5_now 1 = .ok (.tableswitch 72 0 4 #[35, 43, 51, 59, 64], 35) := by decide +kernel
theorem dX5_now_36 : decode cX5_now 36 = .ok (.aload_n 0, 1) := by decide +kernel
theorem dX5_now_37 : decode cX5_now 37 = .ok (.getfield 29, 3) := by decide +kernel
theorem dX5_now_40 : decode cX5_now 40 = .ok (.getfield 118, 3) := by decide +kernel
theorem dX5_now_43 : decode cX5_now 43 = .ok (.ireturn, 1) := by decide +kernel
theorem dX5_now_44 : decode cX5_now 44 = .ok (.aload_n 0, 1) := by decide +kernel
theorem dX5_now_45 : decode cX5_now 45 = .ok (.getfield 29, 3) := by decide +kernel
theorem dX5_now_48 : decode cX5_now 48 = .ok (.getfield 96, 3) := by decide +kernel
theorem dX5_now_51 : decode cX5_now 51 = .ok (.ireturn, 1) := by decide +kernel
theorem dX5_now_52 : decode cX5_now 52 = .ok (.aload_n 0, 1) := by decide +kernel
theorem dX5_now_53 : decode cX5_now 53 = .ok (.getfield 29, 3) := by decide +kernel
theorem dX5_now_56 : decode cX5_now 56 = .ok (.invokevirtual 121, 3) := by decide +kernel
theorem dX5_now_59 : decode cX5_now 59 = .ok (.ireturn, 1) := by decide +kernel
theorem dX5_now_60 : decode cX5_now 60 = .ok (.aload_n 0, 1) := by decide +kernel
theorem dX5_now_61 : decode cX5_now 61 = .ok (.invokevirtual 125, 3) := by decide +kernel
theorem dX5_now_64 : decode cX5_now 64 = .ok (.ireturn, 1) := by decide +kernel
theorem dX5_now_65 : decode cX5_now 65 = .ok (.aload_n 0, 1) := by decide +kernel
theorem dX5_now_66 : decode cX5_now 66 = .ok (.getfield 36, 3) := by decide +kernel
theorem dX5_now_69 : decode cX5_now 69 = .ok (.getfield 128, 3) := by decide +kernel
theorem dX5_now_72 : decode cX5_now 72 = .ok (.ireturn, 1) := by decide +kernel
theorem dX5_now_73 : decode cX5_now 73 = .ok (.iconst (-1), 1) := by decide +kernel
theorem dX5_now_74 : decode cX5_now 74 = .ok (.ireturn, 1) := by decide +kernel
theorem dX5_signs_0 : decode cX5_signs 0 = .ok (.aload_n 0, 1) := by decide +kernel
theorem dX5_signs_1 : decode cX5_signs 1 = .ok (.iload_n 1, 1) := by decide +kernel
theorem dX5_signs_2 : decode cX5_signs 2 = .ok (.invokevirtual 78, 3) := by decide +kernel
theorem dX5_signs_5 : decode cX5_signs 5 = .ok (.ifCond .eq 11, 3) := by decide +kernel
theorem dX5_signs_8 : decode cX5_signs 8 = .ok (.aload_n 0, 1) := by decide +kernel
theorem dX5_signs_9 : decode cX5_signs 9 = .ok (.iload_n 2, 1) := by decide +kernel
theorem dX5_signs_10 : decode cX5_signs 10 = .ok (.invokevirtual 109, 3) := by decide +kernel
theorem dX5_signs_13 : decode cX5_signs 13 = .ok (.ifCond .ne 5, 3) := by decide +kernel
theorem dX5_signs_16 : decode cX5_signs 16 = .ok (.iconst (-1), 1) := by decide +kernel
theorem dX5_signs_17 : decode cX5_signs 17 = .ok (.ireturn, 1) := by decide +kernel
theorem dX5_signs_18 : decode cX5_signs 18 = .ok (.aload_n 0, 1) := by decide +kernel
theorem dX5_signs_19 : decode cX5_signs 19 = .ok (.iload_n 1, 1) := by decide +kernel
theorem dX5_signs_20 : decode cX5_signs 20 = .ok (.invokevirtual 106, 3) := by decide +kernel
theorem dX5_signs_23 : decode cX5_signs 23 = .ok (.ifCond .eq 31, 3) := by decide +kernel
theorem dX5_signs_26 : decode cX5_signs 26 = .ok (.aload_n 0, 1) := by decide +kernel
theorem dX5_signs_27 : decode cX5_signs 27 = .ok (.getfield 29, 3) := by decide +kernel
theorem dX5_signs_30 : decode cX5_signs 30 = .ok (.getfield 112, 3) := by decide +kernel
theorem dX5_signs_33 : decode cX5_signs 33 = .ok (.iload_n 2, 1) := by decide +kernel
theorem dX5_signs_34 : decode cX5_signs 34 = .ok (.invokestatic 85, 3) := by decide +kernel
theorem dX5_signs_37 : decode cX5_signs 37 = .ok (.bipush (-9), 2) := by decide +kernel
theorem dX5_signs_39 : decode cX5_signs 39 = .ok (.if_icmp .ne 15, 3) := by decide +kernel
theorem dX5_signs_42 : decode cX5_signs 42 = .ok (.aload_n 0, 1) := by decide +kernel
theorem dX5_signs_43 : decode cX5_signs 43 = .ok (.getfield 29, 3) := by decide +kernel
theorem dX5_signs_46 : decode cX5_signs 46 = .ok (.getfield 118, 3) := by decide +kernel
theorem dX5_signs_49 : decode cX5_signs 49 = .ok (.bipush 99, 2) := by decide +kernel
theorem dX5_signs_51 : decode cX5_signs 51 = .ok (.if_icmp .lt 6, 3) := by decide +kernel
theorem dX5_signs_54 : decode cX5_signs 54 = .ok (.bipush (-2), 2) := by decide +kernel
theorem dX5_signs_56 : decode cX5_signs 56 = .ok (.ireturn, 1) := by decide +kernel
theorem dX5_signs_57 : decode cX5_signs 57 = .ok (.aload_n 0, 1) := by decide +kernel
theorem dX5_signs_58 : decode cX5_signs 58 = .ok (.getfield 36, 3) := by decide +kernel
theorem dX5_signs_61 : decode cX5_signs 61 = .ok (.aload_n 0, 1) := by decide +kernel
theorem dX5_signs_62 : decode cX5_signs 62 = .ok (.getfield 29, 3) := by decide +kernel
theorem dX5_signs_65 : decode cX5_signs 65 = .ok (.invokevirtual 131, 3) := by decide +kernel
theorem dX5_signs_68 : decode cX5_signs 68 = .ok (.aload_n 0, 1) := by decide +kernel
theorem dX5_signs_69 : decode cX5_signs 69 = .ok (.getfield 19, 3) := by decide +kernel
theorem dX5_signs_72 : decode cX5_signs 72 = .ok (.aload_n 0, 1) := by decide +kernel
theorem dX5_signs_73 : decode cX5_signs 73 = .ok (.getfield 29, 3) := by decide +kernel
theorem dX5_signs_76 : decode cX5_signs 76 = .ok (.getfield 96, 3) := by decide +kernel
theorem dX5_signs_79 : decode cX5_signs 79 = .ok (.invokestatic 135, 3) := by decide +kernel
theorem dX5_signs_82 : decode cX5_signs 82 = .ok (.invokevirtual 140, 3) := by decide +kernel
theorem dX5_signs_85 : decode cX5_signs 85 = .ok (.istore_n 3, 1) := by decide +kernel
theorem dX5_signs_86 : decode cX5_signs 86 = .ok (.aload_n 0, 1) := by decide +kernel
theorem dX5_signs_87 : decode cX5_signs 87 = .ok (.getfield 29, 3) := by decide +kernel
theorem dX5_signs_90 : decode cX5_signs 90 = .ok (.iload_n 2, 1) := by decide +kernel
theorem dX5_signs_91 : decode cX5_signs 91 = .ok (.iload_n 1, 1) := by decide +kernel
theorem dX5_signs_92 : decode cX5_signs 92 = .ok (.iload_n 3, 1) := by decide +kernel
theorem dX5_signs_93 : decode cX5_signs 93 = .ok (.invokevirtual 143, 3) := by decide +kernel
theorem dX5_signs_96 : decode cX5_signs 96 = .ok (.aload_n 0, 1) := by decide +kernel
theorem dX5_signs_97 : decode cX5_signs 97 = .ok (.getfield 29, 3) := by decide +kernel
theorem dX5_signs_100 : decode cX5_signs 100 = .ok (.dup, 1) := by decide +kernel
theorem dX5_signs_101 : decode cX5_signs 101 = .ok (.getfield 96, 3) := by decide +kernel
theorem dX5_signs_104 : decode cX5_signs 104 = .ok (.iconst 1, 1) := by decide +kernel
theorem dX5_signs_105 : decode cX5_signs 105 = .ok (.iload_n 1, 1) := by decide +kernel
theorem dX5_signs_106 : decode cX5_signs 106 = .ok (.ishl, 1) := by decide +kernel
theorem dX5_signs_107 : decode cX5_signs 107 = .ok (.ior, 1) := by decide +kernel
theorem dX5_signs_108 : decode cX5_signs 108 = .ok (.putfield 96, 3) := by decide +kernel
theorem dX5_signs_111 : decode cX5_signs 111 = .ok (.aload_n 0, 1) := by decide +kernel
theorem dX5_signs_112 : decode cX5_signs 112 = .ok (.getfield 29, 3) := by decide +kernel
theorem dX5_signs_115 : decode cX5_signs 115 = .ok (.dup, 1) := by decide +kernel
theorem dX5_signs_116 : decode cX5_signs 116 = .ok (.getfield 118, 3) := by decide +kernel
theorem dX5_signs_119 : decode cX5_signs 119 = .ok (.iconst 1, 1) := by decide +kernel
theorem dX5_signs_120 : decode cX5_signs 120 = .ok (.iadd, 1) := by decide +kernel
theorem dX5_signs_121 : decode cX5_signs 121 = .ok (.putfield 118, 3) := by decide +kernel
theorem dX5_signs_124 : decode cX5_signs 124 = .ok (.iload_n 3, 1) := by decide +kernel
theorem dX5_signs_125 : decode cX5_signs 125 = .ok (.ireturn, 1) := by decide +kernel
theorem dX5_hour_0 : decode cX5_hour 0 = .ok (.aload_n 0, 1) := by decide +kernel
theorem dX5_hour_1 : decode cX5_hour 1 = .ok (.getfield 29, 3) := by decide +kernel
theorem dX5_hour_4 : decode cX5_hour 4 = .ok (.getfield 118, 3) := by decide +kernel
theorem dX5_hour_7 : decode cX5_hour 7 = .ok (.bipush 99, 2) := by decide +kernel
theorem dX5_hour_9 : decode cX5_hour 9 = .ok (.if_icmp .lt 6, 3) := by decide +kernel
theorem dX5_hour_12 : decode cX5_hour 12 = .ok (.bipush (-2), 2) := by decide +kernel
theorem dX5_hour_14 : decode cX5_hour 14 = .ok (.ireturn, 1) := by decide +kernel
theorem dX5_hour_15 : decode cX5_hour 15 = .ok (.aload_n 0, 1) := by decide +kernel
theorem dX5_hour_16 : decode cX5_hour 16 = .ok (.getfield 36, 3) := by decide +kernel
theorem dX5_hour_19 : decode cX5_hour 19 = .ok (.aload_n 0, 1) := by decide +kernel
theorem dX5_hour_20 : decode cX5_hour 20 = .ok (.getfield 29, 3) := by decide +kernel
theorem dX5_hour_23 : decode cX5_hour 23 = .ok (.invokevirtual 131, 3) := by decide +kernel
theorem dX5_hour_26 : decode cX5_hour 26 = .ok (.aload_n 0, 1) := by decide +kernel
theorem dX5_hour_27 : decode cX5_hour 27 = .ok (.getfield 29, 3) := by decide +kernel
theorem dX5_hour_30 : decode cX5_hour 30 = .ok (.dup, 1) := by decide +kernel
theorem dX5_hour_31 : decode cX5_hour 31 = .ok (.getfield 118, 3) := by decide +kernel
theorem dX5_hour_34 : decode cX5_hour 34 = .ok (.iconst 1, 1) := by decide +kernel
theorem dX5_hour_35 : decode cX5_hour 35 = .ok (.iadd, 1) := by decide +kernel
theorem dX5_hour_36 : decode cX5_hour 36 = .ok (.putfield 118, 3) := by decide +kernel
theorem dX5_hour_39 : decode cX5_hour 39 = .ok (.aload_n 0, 1) := by decide +kernel
theorem dX5_hour_40 : decode cX5_hour 40 = .ok (.getfield 29, 3) := by decide +kernel
theorem dX5_hour_43 : decode cX5_hour 43 = .ok (.getfield 118, 3) := by decide +kernel
theorem dX5_hour_46 : decode cX5_hour 46 = .ok (.ireturn, 1) := by decide +kernel
theorem dX5_scrape_0 : decode cX5_scrape 0 = .ok (.aload_n 0, 1) := by decide +kernel
theorem dX5_scrape_1 : decode cX5_scrape 1 = .ok (.iload_n 1, 1) := by decide +kernel
theorem dX5_scrape_2 : decode cX5_scrape 2 = .ok (.invokevirtual 109, 3) := by decide +kernel
theorem dX5_scrape_5 : decode cX5_scrape 5 = .ok (.ifCond .ne 5, 3) := by decide +kernel
theorem dX5_scrape_8 : decode cX5_scrape 8 = .ok (.iconst (-1), 1) := by decide +kernel
theorem dX5_scrape_9 : decode cX5_scrape 9 = .ok (.ireturn, 1) := by decide +kernel
theorem dX5_scrape_10 : decode cX5_scrape 10 = .ok (.aload_n 0, 1) := by decide +kernel
theorem dX5_scrape_11 : decode cX5_scrape 11 = .ok (.getfield 29, 3) := by decide +kernel
theorem dX5_scrape_14 : decode cX5_scrape 14 = .ok (.getfield 112, 3) := by decide +kernel
theorem dX5_scrape_17 : decode cX5_scrape 17 = .ok (.iload_n 1, 1) := by decide +kernel
theorem dX5_scrape_18 : decode cX5_scrape 18 = .ok (.invokestatic 85, 3) := by decide +kernel
theorem dX5_scrape_21 : decode cX5_scrape 21 = .ok (.istore_n 2, 1) := by decide +kernel
theorem dX5_scrape_22 : decode cX5_scrape 22 = .ok (.iload_n 2, 1) := by decide +kernel
theorem dX5_scrape_23 : decode cX5_scrape 23 = .ok (.bipush (-9), 2) := by decide +kernel
theorem dX5_scrape_25 : decode cX5_scrape 25 = .ok (.if_icmp .ne 6, 3) := by decide +kernel
theorem dX5_scrape_28 : decode cX5_scrape 28 = .ok (.bipush (-2), 2) := by decide +kernel
theorem dX5_scrape_30 : decode cX5_scrape 30 = .ok (.ireturn, 1) := by decide +kernel
theorem dX5_scrape_31 : decode cX5_scrape 31 = .ok (.aload_n 0, 1) := by decide +kernel
theorem dX5_scrape_32 : decode cX5_scrape 32 = .ok (.getfield 36, 3) := by decide +kernel
theorem dX5_scrape_35 : decode cX5_scrape 35 = .ok (.aload_n 0, 1) := by decide +kernel
theorem dX5_scrape_36 : decode cX5_scrape 36 = .ok (.getfield 29, 3) := by decide +kernel
theorem dX5_scrape_39 : decode cX5_scrape 39 = .ok (.invokevirtual 131, 3) := by decide +kernel
theorem dX5_scrape_42 : decode cX5_scrape 42 = .ok (.aload_n 0, 1) := by decide +kernel
theorem dX5_scrape_43 : decode cX5_scrape 43 = .ok (.getfield 29, 3) := by decide +kernel
theorem dX5_scrape_46 : decode cX5_scrape 46 = .ok (.iload_n 1, 1) := by decide +kernel
theorem dX5_scrape_47 : decode cX5_scrape 47 = .ok (.bipush (-9), 2) := by decide +kernel
theorem dX5_scrape_49 : decode cX5_scrape 49 = .ok (.iconst 0, 1) := by decide +kernel
theorem dX5_scrape_50 : decode cX5_scrape 50 = .ok (.invokevirtual 143, 3) := by decide +kernel
theorem dX5_scrape_53 : decode cX5_scrape 53 = .ok (.iload_n 2, 1) := by decide +kernel
theorem dX5_scrape_54 : decode cX5_scrape 54 = .ok (.ireturn, 1) := by decide +kernel
theorem dX5_undo_0 : decode cX5_undo 0 = .ok (.aload_n 0, 1) := by decide +kernel
theorem dX5_undo_1 : decode cX5_undo 1 = .ok (.getfield 36, 3) := by decide +kernel
theorem dX5_undo_4 : decode cX5_undo 4 = .ok (.aload_n 0, 1) := by decide +kernel
theorem dX5_undo_5 : decode cX5_undo 5 = .ok (.getfield 29, 3) := by decide +kernel
theorem dX5_undo_8 : decode cX5_undo 8 = .ok (.invokevirtual 147, 3) := by decide +kernel
theorem dX5_undo_11 : decode cX5_undo 11 = .ok (.ifCond .eq 13, 3) := by decide +kernel
theorem dX5_undo_14 : decode cX5_undo 14 = .ok (.aload_n 0, 1) := by decide +kernel
theorem dX5_undo_15 : decode cX5_undo 15 = .ok (.getfield 36, 3) := by decide +kernel
theorem dX5_undo_18 : decode cX5_undo 18 = .ok (.getfield 128, 3) := by decide +kernel
theorem dX5_undo_21 : decode cX5_undo 21 = .ok (.goto 5, 3) := by decide +kernel
theorem dX5_undo_24 : decode cX5_undo 24 = .ok (.bipush (-2), 2) := by decide +kernel
theorem dX5_undo_26 : decode cX5_undo 26 = .ok (.ireturn, 1) := by decide +kernel
theorem dX5_will_0 : decode cX5_will 0 = .ok (.aload_n 0, 1) := by decide +kernel
theorem dX5_will_1 : decode cX5_will 1 = .ok (.getfield 19, 3) := by decide +kernel
theorem dX5_will_4 : decode cX5_will 4 = .ok (.aload_n 0, 1) := by decide +kernel
theorem dX5_will_5 : decode cX5_will 5 = .ok (.getfield 29, 3) := by decide +kernel
theorem dX5_will_8 : decode cX5_will 8 = .ok (.getfield 96, 3) := by decide +kernel
theorem dX5_will_11 : decode cX5_will 11 = .ok (.invokevirtual 151, 3) := by decide +kernel
theorem dX5_will_14 : decode cX5_will 14 = .ok (.ireturn, 1) := by decide +kernel
theorem dX5_begin_0 : decode cX5_begin 0 = .ok (.aload_n 0, 1) := by decide +kernel
theorem dX5_begin_1 : decode cX5_begin 1 = .ok (.getfield 19, 3) := by decide +kernel
theorem dX5_begin_4 : decode cX5_begin 4 = .ok (.invokevirtual 154, 3) := by decide +kernel
theorem dX5_begin_7 : decode cX5_begin 7 = .ok (.istore_n 1, 1) := by decide +kernel
theorem dX5_begin_8 : decode cX5_begin 8 = .ok (.iload_n 1, 1) := by decide +kernel
theorem dX5_begin_9 : decode cX5_begin 9 = .ok (.aload_n 0, 1) := by decide +kernel
theorem dX5_begin_10 : decode cX5_begin 10 = .ok (.getfield 29, 3) := by decide +kernel
theorem dX5_begin_13 : decode cX5_begin 13 = .ok (.getfield 96, 3) := by decide +kernel
theorem dX5_begin_16 : decode cX5_begin 16 = .ok (.iconst (-1), 1) := by decide +kernel
theorem dX5_begin_17 : decode cX5_begin 17 = .ok (.ixor, 1) := by decide +kernel
theorem dX5_begin_18 : decode cX5_begin 18 = .ok (.iand, 1) := by decide +kernel
theorem dX5_begin_19 : decode cX5_begin 19 = .ok (.istore_n 2, 1) := by decide +kernel
theorem dX5_begin_20 : decode cX5_begin 20 = .ok (.iconst 0, 1) := by decide +kernel
theorem dX5_begin_21 : decode cX5_begin 21 = .ok (.istore_n 3, 1) := by decide +kernel
theorem dX5_begin_22 : decode cX5_begin 22 = .ok (.iload_n 3, 1) := by decide +kernel
theorem dX5_begin_23 : decode cX5_begin 23 = .ok (.bipush 7, 2) := by decide +kernel
theorem dX5_begin_25 : decode cX5_begin 25 = .ok (.if_icmp .gt 66, 3) := by decide +kernel
theorem dX5_begin_28 : decode cX5_begin 28 = .ok (.iconst 0, 1) := by decide +kernel
theorem dX5_begin_29 : decode cX5_begin 29 = .ok (.istore 4, 2) := by decide +kernel
theorem dX5_begin_31 : decode cX5_begin 31 = .ok (.iload 4, 2) := by decide +kernel
theorem dX5_begin_33 : decode cX5_begin 33 = .ok (.iload_n 1, 1) := by decide +kernel
theorem dX5_begin_34 : decode cX5_begin 34 = .ok (.if_icmp .gt 51, 3) := by decide +kernel
theorem dX5_begin_37 : decode cX5_begin 37 = .ok (.iload 4, 2) := by decide +kernel
theorem dX5_begin_39 : decode cX5_begin 39 = .ok (.iload_n 2, 1) := by decide +kernel
theorem dX5_begin_40 : decode cX5_begin 40 = .ok (.iconst (-1), 1) := by decide +kernel
theorem dX5_begin_41 : decode cX5_begin 41 = .ok (.ixor, 1) := by decide +kernel
theorem dX5_begin_42 : decode cX5_begin 42 = .ok (.iand, 1) := by decide +kernel
theorem dX5_begin_43 : decode cX5_begin 43 = .ok (.ifCond .ne 36, 3) := by decide +kernel
theorem dX5_begin_46 : decode cX5_begin 46 = .ok (.iload 4, 2) := by decide +kernel
theorem dX5_begin_48 : decode cX5_begin 48 = .ok (.invokestatic 135, 3) := by decide +kernel
theorem dX5_begin_51 : decode cX5_begin 51 = .ok (.iload_n 3, 1) := by decide +kernel
theorem dX5_begin_52 : decode cX5_begin 52 = .ok (.if_icmp .ne 27, 3) := by decide +kernel
theorem dX5_begin_55 : decode cX5_begin 55 = .ok (.aload_n 0, 1) := by decide +kernel
theorem dX5_begin_56 : decode cX5_begin 56 = .ok (.getfield 19, 3) := by decide +kernel
theorem dX5_begin_59 : decode cX5_begin 59 = .ok (.aload_n 0, 1) := by decide +kernel
theorem dX5_begin_60 : decode cX5_begin 60 = .ok (.getfield 29, 3) := by decide +kernel
theorem dX5_begin_63 : decode cX5_begin 63 = .ok (.getfield 96, 3) := by decide +kernel
theorem dX5_begin_66 : decode cX5_begin 66 = .ok (.iload 4, 2) := by decide +kernel
theorem dX5_begin_68 : decode cX5_begin 68 = .ok (.ior, 1) := by decide +kernel
theorem dX5_begin_69 : decode cX5_begin 69 = .ok (.invokevirtual 151, 3) := by decide +kernel
theorem dX5_begin_72 : decode cX5_begin 72 = .ok (.iload_n 1, 1) := by decide +kernel
theorem dX5_begin_73 : decode cX5_begin 73 = .ok (.if_icmp .ne 6, 3) := by decide +kernel
theorem dX5_begin_76 : decode cX5_begin 76 = .ok (.iload 4, 2) := by decide +kernel
theorem dX5_begin_78 : decode cX5_begin 78 = .ok (.ireturn, 1) := by decide +kernel
theorem dX5_begin_79 : decode cX5_begin 79 = .ok (.iinc 4 1, 3) := by decide +kernel
theorem dX5_begin_82 : decode cX5_begin 82 = .ok (.goto (-51), 3) := by decide +kernel
theorem dX5_begin_85 : decode cX5_begin 85 = .ok (.iinc 3 1, 3) := by decide +kernel
theorem dX5_begin_88 : decode cX5_begin 88 = .ok (.goto (-66), 3) := by decide +kernel
theorem dX5_begin_91 : decode cX5_begin 91 = .ok (.iload_n 2, 1) := by decide +kernel
theorem dX5_begin_92 : decode cX5_begin 92 = .ok (.ireturn, 1) := by decide +kernel
theorem dX5_orders_0 : decode cX5_orders 0 = .ok (.aload_n 0, 1) := by decide +kernel
theorem dX5_orders_1 : decode cX5_orders 1 = .ok (.getfield 49, 3) := by decide +kernel
theorem dX5_orders_4 : decode cX5_orders 4 = .ok (.aload_n 0, 1) := by decide +kernel
theorem dX5_orders_5 : decode cX5_orders 5 = .ok (.getfield 19, 3) := by decide +kernel
theorem dX5_orders_8 : decode cX5_orders 8 = .ok (.aload_n 0, 1) := by decide +kernel
theorem dX5_orders_9 : decode cX5_orders 9 = .ok (.getfield 29, 3) := by decide +kernel
theorem dX5_orders_12 : decode cX5_orders 12 = .ok (.bipush (-9), 2) := by decide +kernel
theorem dX5_orders_14 : decode cX5_orders 14 = .ok (.invokevirtual 157, 3) := by decide +kernel
theorem dX5_orders_17 : decode cX5_orders 17 = .ok (.aload_n 0, 1) := by decide +kernel
theorem dX5_orders_18 : decode cX5_orders 18 = .ok (.getfield 49, 3) := by decide +kernel
theorem dX5_orders_21 : decode cX5_orders 21 = .ok (.getfield 161, 3) := by decide +kernel
theorem dX5_orders_24 : decode cX5_orders 24 = .ok (.ireturn, 1) := by decide +kernel
theorem dX5_first_0 : decode cX5_first 0 = .ok (.aload_n 0, 1) := by decide +kernel
theorem dX5_first_1 : decode cX5_first 1 = .ok (.getfield 49, 3) := by decide +kernel
theorem dX5_first_4 : decode cX5_first 4 = .ok (.aload_n 0, 1) := by decide +kernel
theorem dX5_first_5 : decode cX5_first 5 = .ok (.getfield 19, 3) := by decide +kernel
theorem dX5_first_8 : decode cX5_first 8 = .ok (.aload_n 0, 1) := by decide +kernel
theorem dX5_first_9 : decode cX5_first 9 = .ok (.getfield 29, 3) := by decide +kernel
theorem dX5_first_12 : decode cX5_first 12 = .ok (.bipush (-9), 2) := by decide +kernel
theorem dX5_first_14 : decode cX5_first 14 = .ok (.invokevirtual 157, 3) := by decide +kernel
theorem dX5_first_17 : decode cX5_first 17 = .ok (.aload_n 0, 1) := by decide +kernel
theorem dX5_first_18 : decode cX5_first 18 = .ok (.getfield 49, 3) := by decide +kernel
theorem dX5_first_21 : decode cX5_first 21 = .ok (.invokevirtual 162, 3) := by decide +kernel
theorem dX5_first_24 : decode cX5_first 24 = .ok (.ireturn, 1) := by decide +kernel
theorem dX5_sure_0 : decode cX5_sure 0 = .ok (.aload_n 0, 1) := by decide +kernel
theorem dX5_sure_1 : decode cX5_sure 1 = .ok (.iload_n 1, 1) := by decide +kernel
theorem dX5_sure_2 : decode cX5_sure 2 = .ok (.invokevirtual 165, 3) := by decide +kernel
theorem dX5_sure_5 : decode cX5_sure 5 = .ok (.ifCond .ne 5, 3) := by decide +kernel
theorem dX5_sure_8 : decode cX5_sure 8 = .ok (.iconst (-1), 1) := by decide +kernel
theorem dX5_sure_9 : decode cX5_sure 9 = .ok (.ireturn, 1) := by decide +kernel
theorem dX5_sure_10 : decode cX5_sure 10 = .ok (.aload_n 0, 1) := by decide +kernel
theorem dX5_sure_11 : decode cX5_sure 11 = .ok (.getfield 49, 3) := by decide +kernel
theorem dX5_sure_14 : decode cX5_sure 14 = .ok (.aload_n 0, 1) := by decide +kernel
theorem dX5_sure_15 : decode cX5_sure 15 = .ok (.getfield 19, 3) := by decide +kernel
theorem dX5_sure_18 : decode cX5_sure 18 = .ok (.aload_n 0, 1) := by decide +kernel
theorem dX5_sure_19 : decode cX5_sure 19 = .ok (.getfield 29, 3) := by decide +kernel
theorem dX5_sure_22 : decode cX5_sure 22 = .ok (.bipush (-9), 2) := by decide +kernel
theorem dX5_sure_24 : decode cX5_sure 24 = .ok (.invokevirtual 157, 3) := by decide +kernel
theorem dX5_sure_27 : decode cX5_sure 27 = .ok (.aload_n 0, 1) := by decide +kernel
theorem dX5_sure_28 : decode cX5_sure 28 = .ok (.getfield 49, 3) := by decide +kernel
theorem dX5_sure_31 : decode cX5_sure 31 = .ok (.iload_n 1, 1) := by decide +kernel
theorem dX5_sure_32 : decode cX5_sure 32 = .ok (.invokevirtual 168, 3) := by decide +kernel
theorem dX5_sure_35 : decode cX5_sure 35 = .ok (.ireturn, 1) := by decide +kernel
theorem dX5_chance_0 : decode cX5_chance 0 = .ok (.aload_n 0, 1) := by decide +kernel
theorem dX5_chance_1 : decode cX5_chance 1 = .ok (.iload_n 1, 1) := by decide +kernel
theorem dX5_chance_2 : decode cX5_chance 2 = .ok (.invokevirtual 165, 3) := by decide +kernel
theorem dX5_chance_5 : decode cX5_chance 5 = .ok (.ifCond .eq 10, 3) := by decide +kernel
theorem dX5_chance_8 : decode cX5_chance 8 = .ok (.iload_n 2, 1) := by decide +kernel
theorem dX5_chance_9 : decode cX5_chance 9 = .ok (.invokestatic 171, 3) := by decide +kernel
theorem dX5_chance_12 : decode cX5_chance 12 = .ok (.ifCond .ne 5, 3) := by decide +kernel
theorem dX5_chance_15 : decode cX5_chance 15 = .ok (.iconst (-1), 1) := by decide +kernel
theorem dX5_chance_16 : decode cX5_chance 16 = .ok (.ireturn, 1) := by decide +kernel
theorem dX5_chance_17 : decode cX5_chance 17 = .ok (.aload_n 0, 1) := by decide +kernel
theorem dX5_chance_18 : decode cX5_chance 18 = .ok (.getfield 49, 3) := by decide +kernel
theorem dX5_chance_21 : decode cX5_chance 21 = .ok (.aload_n 0, 1) := by decide +kernel
theorem dX5_chance_22 : decode cX5_chance 22 = .ok (.getfield 19, 3) := by decide +kernel
theorem dX5_chance_25 : decode cX5_chance 25 = .ok (.aload_n 0, 1) := by decide +kernel
theorem dX5_chance_26 : decode cX5_chance 26 = .ok (.getfield 29, 3) := by decide +kernel
theorem dX5_chance_29 : decode cX5_chance 29 = .ok (.bipush (-9), 2) := by decide +kernel
theorem dX5_chance_31 : decode cX5_chance 31 = .ok (.invokevirtual 157, 3) := by decide +kernel
theorem dX5_chance_34 : decode cX5_chance 34 = .ok (.aload_n 0, 1) := by decide +kernel
theorem dX5_chance_35 : decode cX5_chance 35 = .ok (.getfield 49, 3) := by decide +kernel
theorem dX5_chance_38 : decode cX5_chance 38 = .ok (.iload_n 1, 1) := by decide +kernel
theorem dX5_chance_39 : decode cX5_chance 39 = .ok (.invokevirtual 174, 3) := by decide +kernel
theorem dX5_chance_42 : decode cX5_chance 42 = .ok (.aload_n 0, 1) := by decide +kernel
theorem dX5_chance_43 : decode cX5_chance 43 = .ok (.getfield 49, 3) := by decide +kernel
theorem dX5_chance_46 : decode cX5_chance 46 = .ok (.getfield 161, 3) := by decide +kernel
theorem dX5_chance_49 : decode cX5_chance 49 = .ok (.iconst 1, 1) := by decide +kernel
theorem dX5_chance_50 : decode cX5_chance 50 = .ok (.invokestatic 177, 3) := by decide +kernel
theorem dX5_chance_53 : decode cX5_chance 53 = .ok (.iload_n 2, 1) := by decide +kernel
theorem dX5_chance_54 : decode cX5_chance 54 = .ok (.invokestatic 183, 3) := by decide +kernel
theorem dX5_chance_57 : decode cX5_chance 57 = .ok (.ireturn, 1) := by decide +kernel
theorem dX5_ask_0 : decode cX5_ask 0 = .ok (.aload_n 0, 1) := by decide +kernel
theorem dX5_ask_1 : decode cX5_ask 1 = .ok (.getfield 49, 3) := by decide +kernel
theorem dX5_ask_4 : decode cX5_ask 4 = .ok (.aload_n 0, 1) := by decide +kernel
theorem dX5_ask_5 : decode cX5_ask 5 = .ok (.getfield 19, 3) := by decide +kernel
theorem dX5_ask_8 : decode cX5_ask 8 = .ok (.aload_n 0, 1) := by decide +kernel
theorem dX5_ask_9 : decode cX5_ask 9 = .ok (.getfield 29, 3) := by decide +kernel
theorem dX5_ask_12 : decode cX5_ask 12 = .ok (.bipush (-9), 2) := by decide +kernel
theorem dX5_ask_14 : decode cX5_ask 14 = .ok (.invokevirtual 157, 3) := by decide +kernel
theorem dX5_ask_17 : decode cX5_ask 17 = .ok (.aload_n 0, 1) := by decide +kernel
theorem dX5_ask_18 : decode cX5_ask 18 = .ok (.getfield 49, 3) := by decide +kernel
theorem dX5_ask_21 : decode cX5_ask 21 = .ok (.invokevirtual 187, 3) := by decide +kernel
theorem dX5_ask_24 : decode cX5_ask 24 = .ok (.ireturn, 1) := by decide +kernel
theorem dX5_hang_0 : decode cX5_hang 0 = .ok (.aload_n 0, 1) := by decide +kernel
theorem dX5_hang_1 : decode cX5_hang 1 = .ok (.getfield 49, 3) := by decide +kernel
theorem dX5_hang_4 : decode cX5_hang 4 = .ok (.aload_n 0, 1) := by decide +kernel
theorem dX5_hang_5 : decode cX5_hang 5 = .ok (.getfield 19, 3) := by decide +kernel
theorem dX5_hang_8 : decode cX5_hang 8 = .ok (.aload_n 0, 1) := by decide +kernel
theorem dX5_hang_9 : decode cX5_hang 9 = .ok (.getfield 29, 3) := by decide +kernel
theorem dX5_hang_12 : decode cX5_hang 12 = .ok (.bipush (-9), 2) := by decide +kernel
theorem dX5_hang_14 : decode cX5_hang 14 = .ok (.invokevirtual 157, 3) := by decide +kernel
theorem dX5_hang_17 : decode cX5_hang 17 = .ok (.aload_n 0, 1) := by decide +kernel
theorem dX5_hang_18 : decode cX5_hang 18 = .ok (.getfield 49, 3) := by decide +kernel
theorem dX5_hang_21 : decode cX5_hang 21 = .ok (.invokevirtual 190, 3) := by decide +kernel
theorem dX5_hang_24 : decode cX5_hang 24 = .ok (.ireturn, 1) := by decide +kernel
theorem dX5_shift_0 : decode cX5_shift 0 = .ok (.iload_n 1, 1) := by decide +kernel
theorem dX5_shift_1 : decode cX5_shift 1 = .ok (.invokestatic 171, 3) := by decide +kernel
theorem dX5_shift_4 : decode cX5_shift 4 = .ok (.ifCond .ne 5, 3) := by decide +kernel
theorem dX5_shift_7 : decode cX5_shift 7 = .ok (.iconst (-1), 1) := by decide +kernel
theorem dX5_shift_8 : decode cX5_shift 8 = .ok (.ireturn, 1) := by decide +kernel
theorem dX5_shift_9 : decode cX5_shift 9 = .ok (.bipush (-9), 2) := by decide +kernel
theorem dX5_shift_11 : decode cX5_shift 11 = .ok (.istore_n 2, 1) := by decide +kernel
theorem dX5_shift_12 : decode cX5_shift 12 = .ok (.bipush (-9), 2) := by decide +kernel
theorem dX5_shift_14 : decode cX5_shift 14 = .ok (.istore_n 3, 1) := by decide +kernel
theorem dX5_shift_15 : decode cX5_shift 15 = .ok (.iconst 0, 1) := by decide +kernel
theorem dX5_shift_16 : decode cX5_shift 16 = .ok (.istore 4, 2) := by decide +kernel
theorem dX5_shift_18 : decode cX5_shift 18 = .ok (.iload 4, 2) := by decide +kernel
theorem dX5_shift_20 : decode cX5_shift 20 = .ok (.bipush 8, 2) := by decide +kernel
theorem dX5_shift_22 : decode cX5_shift 22 = .ok (.if_icmp .ge 67, 3) := by decide +kernel
theorem dX5_shift_25 : decode cX5_shift 25 = .ok (.aload_n 0, 1) := by decide +kernel
theorem dX5_shift_26 : decode cX5_shift 26 = .ok (.getfield 29, 3) := by decide +kernel
theorem dX5_shift_29 : decode cX5_shift 29 = .ok (.getfield 112, 3) := by decide +kernel
theorem dX5_shift_32 : decode cX5_shift 32 = .ok (.iload 4, 2) := by decide +kernel
theorem dX5_shift_34 : decode cX5_shift 34 = .ok (.invokestatic 85, 3) := by decide +kernel
theorem dX5_shift_37 : decode cX5_shift 37 = .ok (.bipush (-9), 2) := by decide +kernel
theorem dX5_shift_39 : decode cX5_shift 39 = .ok (.if_icmp .eq 44, 3) := by decide +kernel
theorem dX5_shift_42 : decode cX5_shift 42 = .ok (.aload_n 0, 1) := by decide +kernel
theorem dX5_shift_43 : decode cX5_shift 43 = .ok (.getfield 49, 3) := by decide +kernel
theorem dX5_shift_46 : decode cX5_shift 46 = .ok (.aload_n 0, 1) := by decide +kernel
theorem dX5_shift_47 : decode cX5_shift 47 = .ok (.getfield 19, 3) := by decide +kernel
theorem dX5_shift_50 : decode cX5_shift 50 = .ok (.aload_n 0, 1) := by decide +kernel
theorem dX5_shift_51 : decode cX5_shift 51 = .ok (.getfield 29, 3) := by decide +kernel
theorem dX5_shift_54 : decode cX5_shift 54 = .ok (.iload 4, 2) := by decide +kernel
theorem dX5_shift_56 : decode cX5_shift 56 = .ok (.invokevirtual 157, 3) := by decide +kernel
theorem dX5_shift_59 : decode cX5_shift 59 = .ok (.aload_n 0, 1) := by decide +kernel
theorem dX5_shift_60 : decode cX5_shift 60 = .ok (.getfield 49, 3) := by decide +kernel
theorem dX5_shift_63 : decode cX5_shift 63 = .ok (.invokevirtual 162, 3) := by decide +kernel
theorem dX5_shift_66 : decode cX5_shift 66 = .ok (.invokestatic 135, 3) := by decide +kernel
theorem dX5_shift_69 : decode cX5_shift 69 = .ok (.istore 5, 2) := by decide +kernel
theorem dX5_shift_71 : decode cX5_shift 71 = .ok (.iload 5, 2) := by decide +kernel
theorem dX5_shift_73 : decode cX5_shift 73 = .ok (.iload_n 3, 1) := by decide +kernel
theorem dX5_shift_74 : decode cX5_shift 74 = .ok (.if_icmp .le 9, 3) := by decide +kernel
theorem dX5_shift_77 : decode cX5_shift 77 = .ok (.iload 5, 2) := by decide +kernel
theorem dX5_shift_79 : decode cX5_shift 79 = .ok (.istore_n 3, 1) := by decide +kernel
theorem dX5_shift_80 : decode cX5_shift 80 = .ok (.iload 4, 2) := by decide +kernel
theorem dX5_shift_82 : decode cX5_shift 82 = .ok (.istore_n 2, 1) := by decide +kernel
theorem dX5_shift_83 : decode cX5_shift 83 = .ok (.iinc 4 1, 3) := by decide +kernel
theorem dX5_shift_86 : decode cX5_shift 86 = .ok (.goto (-68), 3) := by decide +kernel
theorem dX5_shift_89 : decode cX5_shift 89 = .ok (.iload_n 1, 1) := by decide +kernel
