theorem dX3_init_0 : decode cX3_init 0 = .ok (.aload_n 0, 1) := by decide +kernel
theorem dX3_init_1 : decode cX3_init 1 = .ok (.invokespecial 3, 3) := by decide +kernel
theorem dX3_init_4 : decode cX3_init 4 = .ok (.aload_n 0, 1) := by decide +kernel
theorem dX3_init_5 : decode cX3_init 5 = .ok (.iload_n 1, 1) := by decide +kernel
theorem dX3_init_6 : decode cX3_init 6 = .ok (.putfield 9, 3) := by decide +kernel
theorem dX3_init_9 : decode cX3_init 9 = .ok (.aload_n 0, 1) := by decide +kernel
theorem dX3_init_10 : decode cX3_init 10 = .ok (.bipush 6, 2) := by decide +kernel
theorem dX3_init_12 : decode cX3_init 12 = .ok (.anewarray 15, 3) := by decide +kernel
theorem dX3_init_15 : decode cX3_init 15 = .ok (.putfield 17, 3) := by decide +kernel
theorem dX3_init_18 : decode cX3_init 18 = .ok (.iconst 0, 1) := by decide +kernel
theorem dX3_init_19 : decode cX3_init 19 = .ok (.istore_n 3, 1) := by decide +kernel
theorem dX3_init_20 : decode cX3_init 20 = .ok (.iload_n 3, 1) := by decide +kernel
theorem dX3_init_21 : decode cX3_init 21 = .ok (.aload_n 0, 1) := by decide +kernel
theorem dX3_init_22 : decode cX3_init 22 = .ok (.getfield 17, 3) := by decide +kernel
theorem dX3_init_25 : decode cX3_init 25 = .ok (.arraylength, 1) := by decide +kernel
theorem dX3_init_26 : decode cX3_init 26 = .ok (.if_icmp .ge 23, 3) := by decide +kernel
theorem dX3_init_29 : decode cX3_init 29 = .ok (.aload_n 0, 1) := by decide +kernel
theorem dX3_init_30 : decode cX3_init 30 = .ok (.getfield 17, 3) := by decide +kernel
theorem dX3_init_33 : decode cX3_init 33 = .ok (.iload_n 3, 1) := by decide +kernel
theorem dX3_init_34 : decode cX3_init 34 = .ok (.new 15, 3) := by decide +kernel
theorem dX3_init_37 : decode cX3_init 37 = .ok (.dup, 1) := by decide +kernel
theorem dX3_init_38 : decode cX3_init 38 = .ok (.aload_n 2, 1) := by decide +kernel
theorem dX3_init_39 : decode cX3_init 39 = .ok (.invokespecial 21, 3) := by decide +kernel
theorem dX3_init_42 : decode cX3_init 42 = .ok (.aastore, 1) := by decide +kernel
theorem dX3_init_43 : decode cX3_init 43 = .ok (.iinc 3 1, 3) := by decide +kernel
theorem dX3_init_46 : decode cX3_init 46 = .ok (.goto (-26), 3) := by decide +kernel
theorem dX3_init_49 : decode cX3_init 49 = .ok (.return_, 1) := by decide +kernel
theorem dX3_make_0 : decode cX3_make 0 = .ok (.aload_n 0, 1) := by decide +kernel
theorem dX3_make_1 : decode cX3_make 1 = .ok (.aload_n 1, 1) := by decide +kernel
theorem dX3_make_2 : decode cX3_make 2 = .ok (.getfield 24, 3) := by decide +kernel
theorem dX3_make_5 : decode cX3_make 5 = .ok (.aload_n 1, 1) := by decide +kernel
theorem dX3_make_6 : decode cX3_make 6 = .ok (.getfield 29, 3) := by decide +kernel
theorem dX3_make_9 : decode cX3_make 9 = .ok (.lload_n 3, 1) := by decide +kernel
theorem dX3_make_10 : decode cX3_make 10 = .ok (.invokevirtual 32, 3) := by decide +kernel
theorem dX3_make_13 : decode cX3_make 13 = .ok (.aload_n 1, 1) := by decide +kernel
theorem dX3_make_14 : decode cX3_make 14 = .ok (.getfield 36, 3) := by decide +kernel
theorem dX3_make_17 : decode cX3_make 17 = .ok (.ifCond .eq 11, 3) := by decide +kernel
theorem dX3_make_20 : decode cX3_make 20 = .ok (.aload_n 0, 1) := by decide +kernel
theorem dX3_make_21 : decode cX3_make 21 = .ok (.aload_n 1, 1) := by decide +kernel
theorem dX3_make_22 : decode cX3_make 22 = .ok (.getfield 40, 3) := by decide +kernel
theorem dX3_make_25 : decode cX3_make 25 = .ok (.invokevirtual 43, 3) := by decide +kernel
theorem dX3_make_28 : decode cX3_make 28 = .ok (.aload_n 0, 1) := by decide +kernel
theorem dX3_make_29 : decode cX3_make 29 = .ok (.aload_n 1, 1) := by decide +kernel
theorem dX3_make_30 : decode cX3_make 30 = .ok (.getfield 40, 3) := by decide +kernel
theorem dX3_make_33 : decode cX3_make 33 = .ok (.invokevirtual 47, 3) := by decide +kernel
theorem dX3_make_36 : decode cX3_make 36 = .ok (.aload_n 0, 1) := by decide +kernel
theorem dX3_make_37 : decode cX3_make 37 = .ok (.aload_n 1, 1) := by decide +kernel
theorem dX3_make_38 : decode cX3_make 38 = .ok (.aload_n 2, 1) := by decide +kernel
theorem dX3_make_39 : decode cX3_make 39 = .ok (.lload_n 3, 1) := by decide +kernel
theorem dX3_make_40 : decode cX3_make 40 = .ok (.invokevirtual 50, 3) := by decide +kernel
theorem dX3_make_43 : decode cX3_make 43 = .ok (.aload_n 0, 1) := by decide +kernel
theorem dX3_make_44 : decode cX3_make 44 = .ok (.invokevirtual 54, 3) := by decide +kernel
theorem dX3_make_47 : decode cX3_make 47 = .ok (.aload_n 0, 1) := by decide +kernel
theorem dX3_make_48 : decode cX3_make 48 = .ok (.invokevirtual 57, 3) := by decide +kernel
theorem dX3_make_51 : decode cX3_make 51 = .ok (.aload_n 0, 1) := by decide +kernel
theorem dX3_make_52 : decode cX3_make 52 = .ok (.invokevirtual 60, 3) := by decide +kernel
theorem dX3_make_55 : decode cX3_make 55 = .ok (.aload_n 0, 1) := by decide +kernel
theorem dX3_make_56 : decode cX3_make 56 = .ok (.invokevirtual 63, 3) := by decide +kernel
theorem dX3_make_59 : decode cX3_make 59 = .ok (.return_, 1) := by decide +kernel
theorem dX3_turn_0 : decode cX3_turn 0 = .ok (.aload_n 0, 1) := by decide +kernel
theorem dX3_turn_1 : decode cX3_turn 1 = .ok (.getfield 66, 3) := by decide +kernel
theorem dX3_turn_4 : decode cX3_turn 4 = .ok (.iconst 2, 1) := by decide +kernel
theorem dX3_turn_5 : decode cX3_turn 5 = .ok (.if_icmp .ne 18, 3) := by decide +kernel
theorem dX3_turn_8 : decode cX3_turn 8 = .ok (.aload_n 0, 1) := by decide +kernel
theorem dX3_turn_9 : decode cX3_turn 9 = .ok (.iload_n 1, 1) := by decide +kernel
theorem dX3_turn_10 : decode cX3_turn 10 = .ok (.aload_n 0, 1) := by decide +kernel
theorem dX3_turn_11 : decode cX3_turn 11 = .ok (.getfield 67, 3) := by decide +kernel
theorem dX3_turn_14 : decode cX3_turn 14 = .ok (.isub, 1) := by decide +kernel
theorem dX3_turn_15 : decode cX3_turn 15 = .ok (.iconst 1, 1) := by decide +kernel
theorem dX3_turn_16 : decode cX3_turn 16 = .ok (.iadd, 1) := by decide +kernel
theorem dX3_turn_17 : decode cX3_turn 17 = .ok (.putfield 67, 3) := by decide +kernel
theorem dX3_turn_20 : decode cX3_turn 20 = .ok (.goto 19, 3) := by decide +kernel
theorem dX3_turn_23 : decode cX3_turn 23 = .ok (.aload_n 0, 1) := by decide +kernel
theorem dX3_turn_24 : decode cX3_turn 24 = .ok (.aload_n 0, 1) := by decide +kernel
theorem dX3_turn_25 : decode cX3_turn 25 = .ok (.getfield 66, 3) := by decide +kernel
theorem dX3_turn_28 : decode cX3_turn 28 = .ok (.ifCond .ne 7, 3) := by decide +kernel
theorem dX3_turn_31 : decode cX3_turn 31 = .ok (.iconst 1, 1) := by decide +kernel
theorem dX3_turn_32 : decode cX3_turn 32 = .ok (.goto 4, 3) := by decide +kernel
theorem dX3_turn_35 : decode cX3_turn 35 = .ok (.iconst 0, 1) := by decide +kernel
theorem dX3_turn_36 : decode cX3_turn 36 = .ok (.putfield 66, 3) := by decide +kernel
theorem dX3_turn_39 : decode cX3_turn 39 = .ok (.return_, 1) := by decide +kernel
theorem dX3_keepLiterals_0 : decode cX3_keepLiterals 0 = .ok (.aload_n 0, 1) := by decide +kernel
theorem dX3_keepLiterals_1 : decode cX3_keepLiterals 1 = .ok (.invokevirtual 68, 3) := by decide +kernel
theorem dX3_keepLiterals_4 : decode cX3_keepLiterals 4 = .ok (.ifCond .eq 4, 3) := by decide +kernel
theorem dX3_keepLiterals_7 : decode cX3_keepLiterals 7 = .ok (.return_, 1) := by decide +kernel
theorem dX3_keepLiterals_8 : decode cX3_keepLiterals 8 = .ok (.iconst 0, 1) := by decide +kernel
theorem dX3_keepLiterals_9 : decode cX3_keepLiterals 9 = .ok (.istore 5, 2) := by decide +kernel
theorem dX3_keepLiterals_11 : decode cX3_keepLiterals 11 = .ok (.iload 5, 2) := by decide +kernel
theorem dX3_keepLiterals_13 : decode cX3_keepLiterals 13 = .ok (.aload_n 1, 1) := by decide +kernel
theorem dX3_keepLiterals_14 : decode cX3_keepLiterals 14 = .ok (.getfield 40, 3) := by decide +kernel
theorem dX3_keepLiterals_17 : decode cX3_keepLiterals 17 = .ok (.if_icmp .ge 115, 3) := by decide +kernel
theorem dX3_keepLiterals_20 : decode cX3_keepLiterals 20 = .ok (.iload 5, 2) := by decide +kernel
theorem dX3_keepLiterals_22 : decode cX3_keepLiterals 22 = .ok (.aload_n 1, 1) := by decide +kernel
theorem dX3_keepLiterals_23 : decode cX3_keepLiterals 23 = .ok (.getfield 72, 3) := by decide +kernel
theorem dX3_keepLiterals_26 : decode cX3_keepLiterals 26 = .ok (.arraylength, 1) := by decide +kernel
theorem dX3_keepLiterals_27 : decode cX3_keepLiterals 27 = .ok (.if_icmp .ge 105, 3) := by decide +kernel
theorem dX3_keepLiterals_30 : decode cX3_keepLiterals 30 = .ok (.iload 5, 2) := by decide +kernel
theorem dX3_keepLiterals_32 : decode cX3_keepLiterals 32 = .ok (.aload_n 0, 1) := by decide +kernel
theorem dX3_keepLiterals_33 : decode cX3_keepLiterals 33 = .ok (.getfield 17, 3) := by decide +kernel
theorem dX3_keepLiterals_36 : decode cX3_keepLiterals 36 = .ok (.arraylength, 1) := by decide +kernel
theorem dX3_keepLiterals_37 : decode cX3_keepLiterals 37 = .ok (.if_icmp .ge 95, 3) := by decide +kernel
theorem dX3_keepLiterals_40 : decode cX3_keepLiterals 40 = .ok (.aload_n 1, 1) := by decide +kernel
theorem dX3_keepLiterals_41 : decode cX3_keepLiterals 41 = .ok (.getfield 36, 3) := by decide +kernel
theorem dX3_keepLiterals_44 : decode cX3_keepLiterals 44 = .ok (.ifCond .eq 16, 3) := by decide +kernel
theorem dX3_keepLiterals_47 : decode cX3_keepLiterals 47 = .ok (.aload_n 1, 1) := by decide +kernel
theorem dX3_keepLiterals_48 : decode cX3_keepLiterals 48 = .ok (.getfield 72, 3) := by decide +kernel
theorem dX3_keepLiterals_51 : decode cX3_keepLiterals 51 = .ok (.iload 5, 2) := by decide +kernel
theorem dX3_keepLiterals_53 : decode cX3_keepLiterals 53 = .ok (.iaload, 1) := by decide +kernel
theorem dX3_keepLiterals_54 : decode cX3_keepLiterals 54 = .ok (.invokestatic 76, 3) := by decide +kernel
theorem dX3_keepLiterals_57 : decode cX3_keepLiterals 57 = .ok (.goto 10, 3) := by decide +kernel
theorem dX3_keepLiterals_60 : decode cX3_keepLiterals 60 = .ok (.aload_n 1, 1) := by decide +kernel
theorem dX3_keepLiterals_61 : decode cX3_keepLiterals 61 = .ok (.getfield 72, 3) := by decide +kernel
theorem dX3_keepLiterals_64 : decode cX3_keepLiterals 64 = .ok (.iload 5, 2) := by decide +kernel
theorem dX3_keepLiterals_66 : decode cX3_keepLiterals 66 = .ok (.iaload, 1) := by decide +kernel
theorem dX3_keepLiterals_67 : decode cX3_keepLiterals 67 = .ok (.istore 6, 2) := by decide +kernel
theorem dX3_keepLiterals_69 : decode cX3_keepLiterals 69 = .ok (.aload_n 0, 1) := by decide +kernel
theorem dX3_keepLiterals_70 : decode cX3_keepLiterals 70 = .ok (.getfield 17, 3) := by decide +kernel
theorem dX3_keepLiterals_73 : decode cX3_keepLiterals 73 = .ok (.iload 5, 2) := by decide +kernel
theorem dX3_keepLiterals_75 : decode cX3_keepLiterals 75 = .ok (.aaload, 1) := by decide +kernel
theorem dX3_keepLiterals_76 : decode cX3_keepLiterals 76 = .ok (.ifnull 50, 3) := by decide +kernel
theorem dX3_keepLiterals_79 : decode cX3_keepLiterals 79 = .ok (.aload_n 0, 1) := by decide +kernel
theorem dX3_keepLiterals_80 : decode cX3_keepLiterals 80 = .ok (.getfield 66, 3) := by decide +kernel
theorem dX3_keepLiterals_83 : decode cX3_keepLiterals 83 = .ok (.iconst 2, 1) := by decide +kernel
theorem dX3_keepLiterals_84 : decode cX3_keepLiterals 84 = .ok (.if_icmp .eq 12, 3) := by decide +kernel
theorem dX3_keepLiterals_87 : decode cX3_keepLiterals 87 = .ok (.aload_n 0, 1) := by decide +kernel
theorem dX3_keepLiterals_88 : decode cX3_keepLiterals 88 = .ok (.iload 6, 2) := by decide +kernel
theorem dX3_keepLiterals_90 : decode cX3_keepLiterals 90 = .ok (.invokevirtual 80, 3) := by decide +kernel
theorem dX3_keepLiterals_93 : decode cX3_keepLiterals 93 = .ok (.ifCond .ne 33, 3) := by decide +kernel
theorem dX3_keepLiterals_96 : decode cX3_keepLiterals 96 = .ok (.aload_n 0, 1) := by decide +kernel
theorem dX3_keepLiterals_97 : decode cX3_keepLiterals 97 = .ok (.getfield 17, 3) := by decide +kernel
theorem dX3_keepLiterals_100 : decode cX3_keepLiterals 100 = .ok (.iload 5, 2) := by decide +kernel
theorem dX3_keepLiterals_102 : decode cX3_keepLiterals 102 = .ok (.aaload, 1) := by decide +kernel
theorem dX3_keepLiterals_103 : decode cX3_keepLiterals 103 = .ok (.iload 6, 2) := by decide +kernel
theorem dX3_keepLiterals_105 : decode cX3_keepLiterals 105 = .ok (.aload_n 2, 1) := by decide +kernel
theorem dX3_keepLiterals_106 : decode cX3_keepLiterals 106 = .ok (.iload 6, 2) := by decide +kernel
theorem dX3_keepLiterals_108 : decode cX3_keepLiterals 108 = .ok (.invokevirtual 84, 3) := by decide +kernel
theorem dX3_keepLiterals_111 : decode cX3_keepLiterals 111 = .ok (.lload_n 3, 1) := by decide +kernel
theorem dX3_keepLiterals_112 : decode cX3_keepLiterals 112 = .ok (.invokevirtual 90, 3) := by decide +kernel
theorem dX3_keepLiterals_115 : decode cX3_keepLiterals 115 = .ok (.aload_n 0, 1) := by decide +kernel
theorem dX3_keepLiterals_116 : decode cX3_keepLiterals 116 = .ok (.aload_n 0, 1) := by decide +kernel
theorem dX3_keepLiterals_117 : decode cX3_keepLiterals 117 = .ok (.getfield 17, 3) := by decide +kernel
theorem dX3_keepLiterals_120 : decode cX3_keepLiterals 120 = .ok (.iload 5, 2) := by decide +kernel
theorem dX3_keepLiterals_122 : decode cX3_keepLiterals 122 = .ok (.aaload, 1) := by decide +kernel
theorem dX3_keepLiterals_123 : decode cX3_keepLiterals 123 = .ok (.invokevirtual 94, 3) := by decide +kernel
theorem dX3_keepLiterals_126 : decode cX3_keepLiterals 126 = .ok (.iinc 5 1, 3) := by decide +kernel
theorem dX3_keepLiterals_129 : decode cX3_keepLiterals 129 = .ok (.goto (-118), 3) := by decide +kernel
theorem dX3_keepLiterals_132 : decode cX3_keepLiterals 132 = .ok (.return_, 1) := by decide +kernel
theorem dX3_settleContraries_0 : decode cX3_settleContraries 0 = .ok (.aload_n 0, 1) := by decide +kernel
theorem dX3_settleContraries_1 : decode cX3_settleContraries 1 = .ok (.getfield 66, 3) := by decide +kernel
theorem dX3_settleContraries_4 : decode cX3_settleContraries 4 = .ok (.ifCond .eq 12, 3) := by decide +kernel
theorem dX3_settleContraries_7 : decode cX3_settleContraries 7 = .ok (.aload_n 0, 1) := by decide +kernel
theorem dX3_settleContraries_8 : decode cX3_settleContraries 8 = .ok (.getfield 66, 3) := by decide +kernel
theorem dX3_settleContraries_11 : decode cX3_settleContraries 11 = .ok (.iconst 1, 1) := by decide +kernel
theorem dX3_settleContraries_12 : decode cX3_settleContraries 12 = .ok (.if_icmp .eq 4, 3) := by decide +kernel
theorem dX3_settleContraries_15 : decode cX3_settleContraries 15 = .ok (.return_, 1) := by decide +kernel
theorem dX3_settleContraries_16 : decode cX3_settleContraries 16 = .ok (.iconst 0, 1) := by decide +kernel
theorem dX3_settleContraries_17 : decode cX3_settleContraries 17 = .ok (.istore_n 1, 1) := by decide +kernel
theorem dX3_settleContraries_18 : decode cX3_settleContraries 18 = .ok (.iload_n 1, 1) := by decide +kernel
theorem dX3_settleContraries_19 : decode cX3_settleContraries 19 = .ok (.aload_n 0, 1) := by decide +kernel
theorem dX3_settleContraries_20 : decode cX3_settleContraries 20 = .ok (.getfield 98, 3) := by decide +kernel
theorem dX3_settleContraries_23 : decode cX3_settleContraries 23 = .ok (.if_icmp .ge 49, 3) := by decide +kernel
theorem dX3_settleContraries_26 : decode cX3_settleContraries 26 = .ok (.aload_n 0, 1) := by decide +kernel
theorem dX3_settleContraries_27 : decode cX3_settleContraries 27 = .ok (.iload_n 1, 1) := by decide +kernel
theorem dX3_settleContraries_28 : decode cX3_settleContraries 28 = .ok (.invokevirtual 99, 3) := by decide +kernel
theorem dX3_settleContraries_31 : decode cX3_settleContraries 31 = .ok (.astore_n 2, 1) := by decide +kernel
theorem dX3_settleContraries_32 : decode cX3_settleContraries 32 = .ok (.aload_n 2, 1) := by decide +kernel
theorem dX3_settleContraries_33 : decode cX3_settleContraries 33 = .ok (.ifnull 33, 3) := by decide +kernel
theorem dX3_settleContraries_36 : decode cX3_settleContraries 36 = .ok (.aload_n 0, 1) := by decide +kernel
theorem dX3_settleContraries_37 : decode cX3_settleContraries 37 = .ok (.aload_n 2, 1) := by decide +kernel
theorem dX3_settleContraries_38 : decode cX3_settleContraries 38 = .ok (.getfield 103, 3) := by decide +kernel
theorem dX3_settleContraries_41 : decode cX3_settleContraries 41 = .ok (.invokestatic 76, 3) := by decide +kernel
theorem dX3_settleContraries_44 : decode cX3_settleContraries 44 = .ok (.invokevirtual 80, 3) := by decide +kernel
theorem dX3_settleContraries_47 : decode cX3_settleContraries 47 = .ok (.ifCond .eq 19, 3) := by decide +kernel
theorem dX3_settleContraries_50 : decode cX3_settleContraries 50 = .ok (.aload_n 0, 1) := by decide +kernel
theorem dX3_settleContraries_51 : decode cX3_settleContraries 51 = .ok (.aload_n 0, 1) := by decide +kernel
theorem dX3_settleContraries_52 : decode cX3_settleContraries 52 = .ok (.getfield 66, 3) := by decide +kernel
theorem dX3_settleContraries_55 : decode cX3_settleContraries 55 = .ok (.ifCond .ne 7, 3) := by decide +kernel
theorem dX3_settleContraries_58 : decode cX3_settleContraries 58 = .ok (.iconst 4, 1) := by decide +kernel
theorem dX3_settleContraries_59 : decode cX3_settleContraries 59 = .ok (.goto 4, 3) := by decide +kernel
theorem dX3_settleContraries_62 : decode cX3_settleContraries 62 = .ok (.iconst 3, 1) := by decide +kernel
theorem dX3_settleContraries_63 : decode cX3_settleContraries 63 = .ok (.invokevirtual 106, 3) := by decide +kernel
theorem dX3_settleContraries_66 : decode cX3_settleContraries 66 = .ok (.iinc 1 1, 3) := by decide +kernel
theorem dX3_settleContraries_69 : decode cX3_settleContraries 69 = .ok (.goto (-51), 3) := by decide +kernel
theorem dX3_settleContraries_72 : decode cX3_settleContraries 72 = .ok (.return_, 1) := by decide +kernel
theorem dX4_init_0 : decode cX4_init 0 = .ok (.aload_n 0, 1) := by decide +kernel
theorem dX4_init_1 : decode cX4_init 1 = .ok (.invokespecial 3, 3) := by decide +kernel
theorem dX4_init_4 : decode cX4_init 4 = .ok (.aload_n 0, 1) := by decide +kernel
theorem dX4_init_5 : decode cX4_init 5 = .ok (.aload_n 1, 1) := by decide +kernel
theorem dX4_init_6 : decode cX4_init 6 = .ok (.putfield 9, 3) := by decide +kernel
theorem dX4_init_9 : decode cX4_init 9 = .ok (.return_, 1) := by decide +kernel
theorem dX4_make_0 : decode cX4_make 0 = .ok (.aload_n 0, 1) := by decide +kernel
theorem dX4_make_1 : decode cX4_make 1 = .ok (.lload 4, 2) := by decide +kernel
theorem dX4_make_3 : decode cX4_make 3 = .ok (.putfield 15, 3) := by decide +kernel
theorem dX4_make_6 : decode cX4_make 6 = .ok (.aload_n 0, 1) := by decide +kernel
theorem dX4_make_7 : decode cX4_make 7 = .ok (.lload_n 2, 1) := by decide +kernel
theorem dX4_make_8 : decode cX4_make 8 = .ok (.putfield 19, 3) := by decide +kernel
theorem dX4_make_11 : decode cX4_make 11 = .ok (.aload_n 0, 1) := by decide +kernel
theorem dX4_make_12 : decode cX4_make 12 = .ok (.iload_n 1, 1) := by decide +kernel
theorem dX4_make_13 : decode cX4_make 13 = .ok (.putfield 22, 3) := by decide +kernel
theorem dX4_make_16 : decode cX4_make 16 = .ok (.aload_n 0, 1) := by decide +kernel
theorem dX4_make_17 : decode cX4_make 17 = .ok (.aload_n 0, 1) := by decide +kernel
theorem dX4_make_18 : decode cX4_make 18 = .ok (.getfield 19, 3) := by decide +kernel
theorem dX4_make_21 : decode cX4_make 21 = .ok (.invokestatic 26, 3) := by decide +kernel
theorem dX4_make_24 : decode cX4_make 24 = .ok (.putfield 32, 3) := by decide +kernel
theorem dX4_make_27 : decode cX4_make 27 = .ok (.aload_n 0, 1) := by decide +kernel
theorem dX4_make_28 : decode cX4_make 28 = .ok (.iconst (-1), 1) := by decide +kernel
theorem dX4_make_29 : decode cX4_make 29 = .ok (.putfield 35, 3) := by decide +kernel
theorem dX4_make_32 : decode cX4_make 32 = .ok (.return_, 1) := by decide +kernel
theorem dX4_seek_0 : decode cX4_seek 0 = .ok (.aload_n 0, 1) := by decide +kernel
theorem dX4_seek_1 : decode cX4_seek 1 = .ok (.getfield 35, 3) := by decide +kernel
theorem dX4_seek_4 : decode cX4_seek 4 = .ok (.iload_n 1, 1) := by decide +kernel
theorem dX4_seek_5 : decode cX4_seek 5 = .ok (.if_icmp .ge 32, 3) := by decide +kernel
theorem dX4_seek_8 : decode cX4_seek 8 = .ok (.aload_n 0, 1) := by decide +kernel
theorem dX4_seek_9 : decode cX4_seek 9 = .ok (.aload_n 0, 1) := by decide +kernel
theorem dX4_seek_10 : decode cX4_seek 10 = .ok (.getfield 19, 3) := by decide +kernel
theorem dX4_seek_13 : decode cX4_seek 13 = .ok (.iload_n 1, 1) := by decide +kernel
theorem dX4_seek_14 : decode cX4_seek 14 = .ok (.invokestatic 38, 3) := by decide +kernel
theorem dX4_seek_17 : decode cX4_seek 17 = .ok (.putfield 35, 3) := by decide +kernel
theorem dX4_seek_20 : decode cX4_seek 20 = .ok (.aload_n 0, 1) := by decide +kernel
theorem dX4_seek_21 : decode cX4_seek 21 = .ok (.getfield 9, 3) := by decide +kernel
theorem dX4_seek_24 : decode cX4_seek 24 = .ok (.dup, 1) := by decide +kernel
theorem dX4_seek_25 : decode cX4_seek 25 = .ok (.getfield 42, 3) := by decide +kernel
theorem dX4_seek_28 : decode cX4_seek 28 = .ok (.aload_n 0, 1) := by decide +kernel
theorem dX4_seek_29 : decode cX4_seek 29 = .ok (.iload_n 1, 1) := by decide +kernel
theorem dX4_seek_30 : decode cX4_seek 30 = .ok (.invokevirtual 47, 3) := by decide +kernel
theorem dX4_seek_33 : decode cX4_seek 33 = .ok (.iadd, 1) := by decide +kernel
theorem dX4_seek_34 : decode cX4_seek 34 = .ok (.putfield 42, 3) := by decide +kernel
theorem dX4_seek_37 : decode cX4_seek 37 = .ok (.aload_n 0, 1) := by decide +kernel
theorem dX4_seek_38 : decode cX4_seek 38 = .ok (.getfield 35, 3) := by decide +kernel
theorem dX4_seek_41 : decode cX4_seek 41 = .ok (.ireturn, 1) := by decide +kernel
theorem dX4_cost_0 : decode cX4_cost 0 = .ok (.aload_n 0, 1) := by decide +kernel
theorem dX4_cost_1 : decode cX4_cost 1 = .ok (.getfield 22, 3) := by decide +kernel
theorem dX4_cost_4 : decode cX4_cost 4 = .ok (.iconst 1, 1) := by decide +kernel
theorem dX4_cost_5 : decode cX4_cost 5 = .ok (.iand, 1) := by decide +kernel
theorem dX4_cost_6 : decode cX4_cost 6 = .ok (.iconst 1, 1) := by decide +kernel
theorem dX4_cost_7 : decode cX4_cost 7 = .ok (.if_icmp .ne 7, 3) := by decide +kernel
theorem dX4_cost_10 : decode cX4_cost 10 = .ok (.iconst 1, 1) := by decide +kernel
theorem dX4_cost_11 : decode cX4_cost 11 = .ok (.goto 4, 3) := by decide +kernel
theorem dX4_cost_14 : decode cX4_cost 14 = .ok (.iconst 0, 1) := by decide +kernel
theorem dX4_cost_15 : decode cX4_cost 15 = .ok (.istore_n 2, 1) := by decide +kernel
theorem dX4_cost_16 : decode cX4_cost 16 = .ok (.iload_n 2, 1) := by decide +kernel
theorem dX4_cost_17 : decode cX4_cost 17 = .ok (.ifCond .ne 5, 3) := by decide +kernel
theorem dX4_cost_20 : decode cX4_cost 20 = .ok (.iconst 1, 1) := by decide +kernel
theorem dX4_cost_21 : decode cX4_cost 21 = .ok (.ireturn, 1) := by decide +kernel
theorem dX4_cost_22 : decode cX4_cost 22 = .ok (.aload_n 0, 1) := by decide +kernel
theorem dX4_cost_23 : decode cX4_cost 23 = .ok (.getfield 15, 3) := by decide +kernel
theorem dX4_cost_26 : decode cX4_cost 26 = .ok (.iload_n 1, 1) := by decide +kernel
theorem dX4_cost_27 : decode cX4_cost 27 = .ok (.lushr, 1) := by decide +kernel
theorem dX4_cost_28 : decode cX4_cost 28 = .ok (.invokestatic 26, 3) := by decide +kernel
theorem dX4_cost_31 : decode cX4_cost 31 = .ok (.aload_n 0, 1) := by decide +kernel
theorem dX4_cost_32 : decode cX4_cost 32 = .ok (.getfield 15, 3) := by decide +kernel
theorem dX4_cost_35 : decode cX4_cost 35 = .ok (.aload_n 0, 1) := by decide +kernel
theorem dX4_cost_36 : decode cX4_cost 36 = .ok (.getfield 35, 3) := by decide +kernel
theorem dX4_cost_39 : decode cX4_cost 39 = .ok (.lushr, 1) := by decide +kernel
theorem dX4_cost_40 : decode cX4_cost 40 = .ok (.invokestatic 26, 3) := by decide +kernel
theorem dX4_cost_43 : decode cX4_cost 43 = .ok (.isub, 1) := by decide +kernel
theorem dX4_cost_44 : decode cX4_cost 44 = .ok (.istore_n 3, 1) := by decide +kernel
theorem dX4_cost_45 : decode cX4_cost 45 = .ok (.iload_n 3, 1) := by decide +kernel
theorem dX4_cost_46 : decode cX4_cost 46 = .ok (.iconst 1, 1) := by decide +kernel
theorem dX4_cost_47 : decode cX4_cost 47 = .ok (.iadd, 1) := by decide +kernel
theorem dX4_cost_48 : decode cX4_cost 48 = .ok (.ireturn, 1) := by decide +kernel
theorem dX5_init_0 : decode cX5_init 0 = .ok (.aload_n 0, 1) := by decide +kernel
theorem dX5_init_1 : decode cX5_init 1 = .ok (.invokespecial 3, 3) := by decide +kernel
theorem dX5_init_4 : decode cX5_init 4 = .ok (.aload_n 0, 1) := by decide +kernel
theorem dX5_init_5 : decode cX5_init 5 = .ok (.iconst 5, 1) := by decide +kernel
theorem dX5_init_6 : decode cX5_init 6 = .ok (.anewarray 9, 3) := by decide +kernel
theorem dX5_init_9 : decode cX5_init 9 = .ok (.putfield 11, 3) := by decide +kernel
theorem dX5_init_12 : decode cX5_init 12 = .ok (.iconst 0, 1) := by decide +kernel
theorem dX5_init_13 : decode cX5_init 13 = .ok (.istore_n 1, 1) := by decide +kernel
theorem dX5_init_14 : decode cX5_init 14 = .ok (.iload_n 1, 1) := by decide +kernel
theorem dX5_init_15 : decode cX5_init 15 = .ok (.aload_n 0, 1) := by decide +kernel
theorem dX5_init_16 : decode cX5_init 16 = .ok (.getfield 11, 3) := by decide +kernel
theorem dX5_init_19 : decode cX5_init 19 = .ok (.arraylength, 1) := by decide +kernel
theorem dX5_init_20 : decode cX5_init 20 = .ok (.if_icmp .ge 22, 3) := by decide +kernel
theorem dX5_init_23 : decode cX5_init 23 = .ok (.aload_n 0, 1) := by decide +kernel
theorem dX5_init_24 : decode cX5_init 24 = .ok (.getfield 11, 3) := by decide +kernel
theorem dX5_init_27 : decode cX5_init 27 = .ok (.iload_n 1, 1) := by decide +kernel
theorem dX5_init_28 : decode cX5_init 28 = .ok (.new 9, 3) := by decide +kernel
theorem dX5_init_31 : decode cX5_init 31 = .ok (.dup, 1) := by decide +kernel
theorem dX5_init_32 : decode cX5_init 32 = .ok (.invokespecial 17, 3) := by decide +kernel
theorem dX5_init_35 : decode cX5_init 35 = .ok (.aastore, 1) := by decide +kernel
theorem dX5_init_36 : decode cX5_init 36 = .ok (.iinc 1 1, 3) := by decide +kernel
theorem dX5_init_39 : decode cX5_init 39 = .ok (.goto (-25), 3) := by decide +kernel
theorem dX5_init_42 : decode cX5_init 42 = .ok (.aload_n 0, 1) := by decide +kernel
theorem dX5_init_43 : decode cX5_init 43 = .ok (.iconst 0, 1) := by decide +kernel
theorem dX5_init_44 : decode cX5_init 44 = .ok (.putfield 18, 3) := by decide +kernel
theorem dX5_init_47 : decode cX5_init 47 = .ok (.return_, 1) := by decide +kernel
theorem dX5_restart_0 : decode cX5_restart 0 = .ok (.aload_n 0, 1) := by decide +kernel
theorem dX5_restart_1 : decode cX5_restart 1 = .ok (.getfield 22, 3) := by decide +kernel
theorem dX5_restart_4 : decode cX5_restart 4 = .ok (.istore_n 3, 1) := by decide +kernel
theorem dX5_restart_5 : decode cX5_restart 5 = .ok (.aload_n 0, 1) := by decide +kernel
theorem dX5_restart_6 : decode cX5_restart 6 = .ok (.iload_n 1, 1) := by decide +kernel
theorem dX5_restart_7 : decode cX5_restart 7 = .ok (.putfield 18, 3) := by decide +kernel
theorem dX5_restart_10 : decode cX5_restart 10 = .ok (.aload_n 0, 1) := by decide +kernel
theorem dX5_restart_11 : decode cX5_restart 11 = .ok (.iload_n 2, 1) := by decide +kernel
theorem dX5_restart_12 : decode cX5_restart 12 = .ok (.putfield 25, 3) := by decide +kernel
theorem dX5_restart_15 : decode cX5_restart 15 = .ok (.aload_n 0, 1) := by decide +kernel
theorem dX5_restart_16 : decode cX5_restart 16 = .ok (.iconst 0, 1) := by decide +kernel
theorem dX5_restart_17 : decode cX5_restart 17 = .ok (.putfield 22, 3) := by decide +kernel
theorem dX5_restart_20 : decode cX5_restart 20 = .ok (.iload_n 3, 1) := by decide +kernel
theorem dX5_restart_21 : decode cX5_restart 21 = .ok (.ireturn, 1) := by decide +kernel
theorem dX5_append_0 : decode cX5_append 0 = .ok (.aload_n 0, 1) := by decide +kernel
theorem dX5_append_1 : decode cX5_append 1 = .ok (.getfield 22, 3) := by decide +kernel
theorem dX5_append_4 : decode cX5_append 4 = .ok (.ifCond .lt 27, 3) := by decide +kernel
theorem dX5_append_7 : decode cX5_append 7 = .ok (.aload_n 0, 1) := by decide +kernel
theorem dX5_append_8 : decode cX5_append 8 = .ok (.getfield 22, 3) := by decide +kernel
theorem dX5_append_11 : decode cX5_append 11 = .ok (.aload_n 0, 1) := by decide +kernel
theorem dX5_append_12 : decode cX5_append 12 = .ok (.getfield 11, 3) := by decide +kernel
theorem dX5_append_15 : decode cX5_append 15 = .ok (.arraylength, 1) := by decide +kernel
theorem dX5_append_16 : decode cX5_append 16 = .ok (.if_icmp .ge 15, 3) := by decide +kernel
theorem dX5_append_19 : decode cX5_append 19 = .ok (.aload_n 0, 1) := by decide +kernel
theorem dX5_append_20 : decode cX5_append 20 = .ok (.getfield 11, 3) := by decide +kernel
theorem dX5_append_23 : decode cX5_append 23 = .ok (.aload_n 0, 1) := by decide +kernel
theorem dX5_append_24 : decode cX5_append 24 = .ok (.getfield 22, 3) := by decide +kernel
theorem dX5_append_27 : decode cX5_append 27 = .ok (.aaload, 1) := by decide +kernel
theorem dX5_append_28 : decode cX5_append 28 = .ok (.ifnonnull 5, 3) := by decide +kernel
theorem dX5_append_31 : decode cX5_append 31 = .ok (.iconst (-1), 1) := by decide +kernel
theorem dX5_append_32 : decode cX5_append 32 = .ok (.ireturn, 1) := by decide +kernel
theorem dX5_append_33 : decode cX5_append 33 = .ok (.aload_n 0, 1) := by decide +kernel
theorem dX5_append_34 : decode cX5_append 34 = .ok (.getfield 11, 3) := by decide +kernel
theorem dX5_append_37 : decode cX5_append 37 = .ok (.aload_n 0, 1) := by decide +kernel
theorem dX5_append_38 : decode cX5_append 38 = .ok (.getfield 22, 3) := by decide +kernel
theorem dX5_append_41 : decode cX5_append 41 = .ok (.aaload, 1) := by decide +kernel
theorem dX5_append_42 : decode cX5_append 42 = .ok (.iload_n 1, 1) := by decide +kernel
theorem dX5_append_43 : decode cX5_append 43 = .ok (.iload_n 2, 1) := by decide +kernel
theorem dX5_append_44 : decode cX5_append 44 = .ok (.iload_n 3, 1) := by decide +kernel
theorem dX5_append_45 : decode cX5_append 45 = .ok (.invokevirtual 28, 3) := by decide +kernel
theorem dX5_append_48 : decode cX5_append 48 = .ok (.aload_n 0, 1) := by decide +kernel
theorem dX5_append_49 : decode cX5_append 49 = .ok (.dup, 1) := by decide +kernel
theorem dX5_append_50 : decode cX5_append 50 = .ok (.getfield 22, 3) := by decide +kernel
theorem dX5_append_53 : decode cX5_append 53 = .ok (.iconst 1, 1) := by decide +kernel
theorem dX5_append_54 : decode cX5_append 54 = .ok (.iadd, 1) := by decide +kernel
theorem dX5_append_55 : decode cX5_append 55 = .ok (.putfield 22, 3) := by decide +kernel
theorem dX5_append_58 : decode cX5_append 58 = .ok (.aload_n 0, 1) := by decide +kernel
theorem dX5_append_59 : decode cX5_append 59 = .ok (.getfield 22, 3) := by decide +kernel
theorem dX5_append_62 : decode cX5_append 62 = .ok (.iconst 1, 1) := by decide +kernel
theorem dX5_append_63 : decode cX5_append 63 = .ok (.isub, 1) := by decide +kernel
theorem dX5_append_64 : decode cX5_append 64 = .ok (.ireturn, 1) := by decide +kernel
theorem dX5_toldAt_0 : decode cX5_toldAt 0 = .ok (.iload_n 1, 1) := by decide +kernel
theorem dX5_toldAt_1 : decode cX5_toldAt 1 = .ok (.ifCond .lt 29, 3) := by decide +kernel
theorem dX5_toldAt_4 : decode cX5_toldAt 4 = .ok (.iload_n 1, 1) := by decide +kernel
theorem dX5_toldAt_5 : decode cX5_toldAt 5 = .ok (.aload_n 0, 1) := by decide +kernel
theorem dX5_toldAt_6 : decode cX5_toldAt 6 = .ok (.getfield 22, 3) := by decide +kernel
theorem dX5_toldAt_9 : decode cX5_toldAt 9 = .ok (.if_icmp .ge 21, 3) := by decide +kernel
theorem dX5_toldAt_12 : decode cX5_toldAt 12 = .ok (.iload_n 1, 1) := by decide +kernel
theorem dX5_toldAt_13 : decode cX5_toldAt 13 = .ok (.aload_n 0, 1) := by decide +kernel
theorem dX5_toldAt_14 : decode cX5_toldAt 14 = .ok (.getfield 11, 3) := by decide +kernel
theorem dX5_toldAt_17 : decode cX5_toldAt 17 = .ok (.arraylength, 1) := by decide +kernel
theorem dX5_toldAt_18 : decode cX5_toldAt 18 = .ok (.if_icmp .ge 12, 3) := by decide +kernel
theorem dX5_toldAt_21 : decode cX5_toldAt 21 = .ok (.aload_n 0, 1) := by decide +kernel
theorem dX5_toldAt_22 : decode cX5_toldAt 22 = .ok (.getfield 11, 3) := by decide +kernel
theorem dX5_toldAt_25 : decode cX5_toldAt 25 = .ok (.iload_n 1, 1) := by decide +kernel
theorem dX5_toldAt_26 : decode cX5_toldAt 26 = .ok (.aaload, 1) := by decide +kernel
theorem dX5_toldAt_27 : decode cX5_toldAt 27 = .ok (.goto 4, 3) := by decide +kernel
theorem dX5_toldAt_30 : decode cX5_toldAt 30 = .ok (.aconst_null, 1) := by decide +kernel
theorem dX5_toldAt_31 : decode cX5_toldAt 31 = .ok (.areturn, 1) := by decide +kernel
theorem dX5_isTrueOf_0 : decode cX5_isTrueOf 0 = .ok (.iconst 0, 1) := by decide +kernel
theorem dX5_isTrueOf_1 : decode cX5_isTrueOf 1 = .ok (.istore_n 2, 1) := by decide +kernel
theorem dX5_isTrueOf_2 : decode cX5_isTrueOf 2 = .ok (.iconst 0, 1) := by decide +kernel
theorem dX5_isTrueOf_3 : decode cX5_isTrueOf 3 = .ok (.istore_n 3, 1) := by decide +kernel
theorem dX5_isTrueOf_4 : decode cX5_isTrueOf 4 = .ok (.iload_n 3, 1) := by decide +kernel
theorem dX5_isTrueOf_5 : decode cX5_isTrueOf 5 = .ok (.aload_n 0, 1) := by decide +kernel
theorem dX5_isTrueOf_6 : decode cX5_isTrueOf 6 = .ok (.getfield 22, 3) := by decide +kernel
theorem dX5_isTrueOf_9 : decode cX5_isTrueOf 9 = .ok (.if_icmp .ge 33, 3) := by decide +kernel
theorem dX5_isTrueOf_12 : decode cX5_isTrueOf 12 = .ok (.aload_n 0, 1) := by decide +kernel
theorem dX5_isTrueOf_13 : decode cX5_isTrueOf 13 = .ok (.iload_n 3, 1) := by decide +kernel
theorem dX5_isTrueOf_14 : decode cX5_isTrueOf 14 = .ok (.invokevirtual 32, 3) := by decide +kernel
theorem dX5_isTrueOf_17 : decode cX5_isTrueOf 17 = .ok (.astore 4, 2) := by decide +kernel
theorem dX5_isTrueOf_19 : decode cX5_isTrueOf 19 = .ok (.aload 4, 2) := by decide +kernel
theorem dX5_isTrueOf_21 : decode cX5_isTrueOf 21 = .ok (.ifnull 15, 3) := by decide +kernel
theorem dX5_isTrueOf_24 : decode cX5_isTrueOf 24 = .ok (.aload 4, 2) := by decide +kernel
theorem dX5_isTrueOf_26 : decode cX5_isTrueOf 26 = .ok (.iload_n 1, 1) := by decide +kernel
theorem dX5_isTrueOf_27 : decode cX5_isTrueOf 27 = .ok (.invokevirtual 36, 3) := by decide +kernel
theorem dX5_isTrueOf_30 : decode cX5_isTrueOf 30 = .ok (.ifCond .eq 6, 3) := by decide +kernel
theorem dX5_isTrueOf_33 : decode cX5_isTrueOf 33 = .ok (.iinc 2 1, 3) := by decide +kernel
theorem dX5_isTrueOf_36 : decode cX5_isTrueOf 36 = .ok (.iinc 3 1, 3) := by decide +kernel
theorem dX5_isTrueOf_39 : decode cX5_isTrueOf 39 = .ok (.goto (-35), 3) := by decide +kernel
theorem dX5_isTrueOf_42 : decode cX5_isTrueOf 42 = .ok (.iload_n 2, 1) := by decide +kernel
theorem dX5_isTrueOf_43 : decode cX5_isTrueOf 43 = .ok (.aload_n 0, 1) := by decide +kernel
theorem dX5_isTrueOf_44 : decode cX5_isTrueOf 44 = .ok (.getfield 22, 3) := by decide +kernel
theorem dX5_isTrueOf_47 : decode cX5_isTrueOf 47 = .ok (.aload_n 0, 1) := by decide +kernel
theorem dX5_isTrueOf_48 : decode cX5_isTrueOf 48 = .ok (.getfield 18, 3) := by decide +kernel
theorem dX5_isTrueOf_51 : decode cX5_isTrueOf 51 = .ok (.aload_n 0, 1) := by decide +kernel
theorem dX5_isTrueOf_52 : decode cX5_isTrueOf 52 = .ok (.getfield 25, 3) := by decide +kernel
theorem dX5_isTrueOf_55 : decode cX5_isTrueOf 55 = .ok (.invokestatic 40, 3) := by decide +kernel
theorem dX5_isTrueOf_58 : decode cX5_isTrueOf 58 = .ok (.ireturn, 1) := by decide +kernel
theorem dX6_init_0 : decode cX6_init 0 = .ok (.aload_n 0, 1) := by decide +kernel
theorem dX6_init_1 : decode cX6_init 1 = .ok (.invokespecial 3, 3) := by decide +kernel
theorem dX6_init_4 : decode cX6_init 4 = .ok (.aload_n 0, 1) := by decide +kernel
theorem dX6_init_5 : decode cX6_init 5 = .ok (.new 9, 3) := by decide +kernel
theorem dX6_init_8 : decode cX6_init 8 = .ok (.dup, 1) := by decide +kernel
theorem dX6_init_9 : decode cX6_init 9 = .ok (.invokespecial 11, 3) := by decide +kernel
theorem dX6_init_12 : decode cX6_init 12 = .ok (.putfield 12, 3) := by decide +kernel
theorem dX6_init_15 : decode cX6_init 15 = .ok (.aload_n 0, 1) := by decide +kernel
theorem dX6_init_16 : decode cX6_init 16 = .ok (.new 18, 3) := by decide +kernel
theorem dX6_init_19 : decode cX6_init 19 = .ok (.dup, 1) := by decide +kernel
theorem dX6_init_20 : decode cX6_init 20 = .ok (.aload_n 0, 1) := by decide +kernel
theorem dX6_init_21 : decode cX6_init 21 = .ok (.getfield 12, 3) := by decide +kernel
theorem dX6_init_24 : decode cX6_init 24 = .ok (.invokespecial 20, 3) := by decide +kernel
theorem dX6_init_27 : decode cX6_init 27 = .ok (.putfield 23, 3) := by decide +kernel
theorem dX6_init_30 : decode cX6_init 30 = .ok (.return_, 1) := by decide +kernel
theorem dX6_restart_0 : decode cX6_restart 0 = .ok (.aload_n 0, 1) := by decide +kernel
theorem dX6_restart_1 : decode cX6_restart 1 = .ok (.getfield 23, 3) := by decide +kernel
theorem dX6_restart_4 : decode cX6_restart 4 = .ok (.aload_n 1, 1) := by decide +kernel
theorem dX6_restart_5 : decode cX6_restart 5 = .ok (.aload_n 2, 1) := by decide +kernel
theorem dX6_restart_6 : decode cX6_restart 6 = .ok (.invokevirtual 27, 3) := by decide +kernel
theorem dX6_restart_9 : decode cX6_restart 9 = .ok (.aload_n 0, 1) := by decide +kernel
theorem dX6_restart_10 : decode cX6_restart 10 = .ok (.getfield 12, 3) := by decide +kernel
theorem dX6_restart_13 : decode cX6_restart 13 = .ok (.iconst 0, 1) := by decide +kernel
theorem dX6_restart_14 : decode cX6_restart 14 = .ok (.putfield 31, 3) := by decide +kernel
theorem dX6_restart_17 : decode cX6_restart 17 = .ok (.aload_n 0, 1) := by decide +kernel
theorem dX6_restart_18 : decode cX6_restart 18 = .ok (.iconst 1, 1) := by decide +kernel
theorem dX6_restart_19 : decode cX6_restart 19 = .ok (.putfield 35, 3) := by decide +kernel
theorem dX6_restart_22 : decode cX6_restart 22 = .ok (.aload_n 0, 1) := by decide +kernel
theorem dX6_restart_23 : decode cX6_restart 23 = .ok (.iconst (-1), 1) := by decide +kernel
theorem dX6_restart_24 : decode cX6_restart 24 = .ok (.putfield 39, 3) := by decide +kernel
theorem dX6_restart_27 : decode cX6_restart 27 = .ok (.aload_n 0, 1) := by decide +kernel
theorem dX6_restart_28 : decode cX6_restart 28 = .ok (.getfield 23, 3) := by decide +kernel
theorem dX6_restart_31 : decode cX6_restart 31 = .ok (.getfield 42, 3) := by decide +kernel
theorem dX6_restart_34 : decode cX6_restart 34 = .ok (.ireturn, 1) := by decide +kernel
theorem dX6_advance_0 : decode cX6_advance 0 = .ok (.iload_n 1, 1) := by decide +kernel
theorem dX6_advance_1 : decode cX6_advance 1 = .ok (.aload_n 0, 1) := by decide +kernel
theorem dX6_advance_2 : decode cX6_advance 2 = .ok (.getfield 39, 3) := by decide +kernel
theorem dX6_advance_5 : decode cX6_advance 5 = .ok (.iconst 1, 1) := by decide +kernel
theorem dX6_advance_6 : decode cX6_advance 6 = .ok (.iadd, 1) := by decide +kernel
theorem dX6_advance_7 : decode cX6_advance 7 = .ok (.invokestatic 45, 3) := by decide +kernel
theorem dX6_advance_10 : decode cX6_advance 10 = .ok (.istore_n 2, 1) := by decide +kernel
theorem dX6_advance_11 : decode cX6_advance 11 = .ok (.iload_n 2, 1) := by decide +kernel
theorem dX6_advance_12 : decode cX6_advance 12 = .ok (.bipush 40, 2) := by decide +kernel
theorem dX6_advance_14 : decode cX6_advance 14 = .ok (.if_icmp .lt 8, 3) := by decide +kernel
theorem dX6_advance_17 : decode cX6_advance 17 = .ok (.bipush 40, 2) := by decide +kernel
theorem dX6_advance_19 : decode cX6_advance 19 = .ok (.goto 12, 3) := by decide +kernel
theorem dX6_advance_22 : decode cX6_advance 22 = .ok (.aload_n 0, 1) := by decide +kernel
theorem dX6_advance_23 : decode cX6_advance 23 = .ok (.getfield 23, 3) := by decide +kernel
theorem dX6_advance_26 : decode cX6_advance 26 = .ok (.iload_n 2, 1) := by decide +kernel
theorem dX6_advance_27 : decode cX6_advance 27 = .ok (.iconst 0, 1) := by decide +kernel
theorem dX6_advance_28 : decode cX6_advance 28 = .ok (.invokevirtual 51, 3) := by decide +kernel
theorem dX6_advance_31 : decode cX6_advance 31 = .ok (.istore_n 3, 1) := by decide +kernel
theorem dX6_advance_32 : decode cX6_advance 32 = .ok (.iload_n 3, 1) := by decide +kernel
theorem dX6_advance_33 : decode cX6_advance 33 = .ok (.bipush 40, 2) := by decide +kernel
theorem dX6_advance_35 : decode cX6_advance 35 = .ok (.if_icmp .lt 5, 3) := by decide +kernel
theorem dX6_advance_38 : decode cX6_advance 38 = .ok (.iconst (-1), 1) := by decide +kernel
theorem dX6_advance_39 : decode cX6_advance 39 = .ok (.ireturn, 1) := by decide +kernel
theorem dX6_advance_40 : decode cX6_advance 40 = .ok (.aload_n 0, 1) := by decide +kernel
theorem dX6_advance_41 : decode cX6_advance 41 = .ok (.iload_n 3, 1) := by decide +kernel
theorem dX6_advance_42 : decode cX6_advance 42 = .ok (.putfield 39, 3) := by decide +kernel
theorem dX6_advance_45 : decode cX6_advance 45 = .ok (.iload_n 3, 1) := by decide +kernel
theorem dX6_advance_46 : decode cX6_advance 46 = .ok (.ireturn, 1) := by decide +kernel
theorem dX7_init_0 : decode cX7_init 0 = .ok (.aload_n 0, 1) := by decide +kernel
theorem dX7_init_1 : decode cX7_init 1 = .ok (.invokespecial 3, 3) := by decide +kernel
theorem dX7_init_4 : decode cX7_init 4 = .ok (.aload_n 0, 1) := by decide +kernel
theorem dX7_init_5 : decode cX7_init 5 = .ok (.bipush 40, 2) := by decide +kernel
theorem dX7_init_7 : decode cX7_init 7 = .ok (.newarray .int, 2) := by decide +kernel
theorem dX7_init_9 : decode cX7_init 9 = .ok (.putfield 9, 3) := by decide +kernel
theorem dX7_init_12 : decode cX7_init 12 = .ok (.aload_n 0, 1) := by decide +kernel
theorem dX7_init_13 : decode cX7_init 13 = .ok (.getfield 9, 3) := by decide +kernel
theorem dX7_init_16 : decode cX7_init 16 = .ok (.iconst (-1), 1) := by decide +kernel
theorem dX7_init_17 : decode cX7_init 17 = .ok (.invokestatic 15, 3) := by decide +kernel
theorem dX7_init_20 : decode cX7_init 20 = .ok (.return_, 1) := by decide +kernel
theorem dX7_wordsAt_0 : decode cX7_wordsAt 0 = .ok (.iload_n 1, 1) := by decide +kernel
theorem dX7_wordsAt_1 : decode cX7_wordsAt 1 = .ok (.ifCond .lt 21, 3) := by decide +kernel
theorem dX7_wordsAt_4 : decode cX7_wordsAt 4 = .ok (.iload_n 1, 1) := by decide +kernel
theorem dX7_wordsAt_5 : decode cX7_wordsAt 5 = .ok (.aload_n 0, 1) := by decide +kernel
theorem dX7_wordsAt_6 : decode cX7_wordsAt 6 = .ok (.getfield 9, 3) := by decide +kernel
theorem dX7_wordsAt_9 : decode cX7_wordsAt 9 = .ok (.arraylength, 1) := by decide +kernel
theorem dX7_wordsAt_10 : decode cX7_wordsAt 10 = .ok (.if_icmp .ge 12, 3) := by decide +kernel
theorem dX7_wordsAt_13 : decode cX7_wordsAt 13 = .ok (.aload_n 0, 1) := by decide +kernel
theorem dX7_wordsAt_14 : decode cX7_wordsAt 14 = .ok (.getfield 9, 3) := by decide +kernel
theorem dX7_wordsAt_17 : decode cX7_wordsAt 17 = .ok (.iload_n 1, 1) := by decide +kernel
theorem dX7_wordsAt_18 : decode cX7_wordsAt 18 = .ok (.iaload, 1) := by decide +kernel
theorem dX7_wordsAt_19 : decode cX7_wordsAt 19 = .ok (.goto 4, 3) := by decide +kernel
theorem dX7_wordsAt_22 : decode cX7_wordsAt 22 = .ok (.iconst (-1), 1) := by decide +kernel
theorem dX7_wordsAt_23 : decode cX7_wordsAt 23 = .ok (.ireturn, 1) := by decide +kernel
theorem dX7_replace_0 : decode cX7_replace 0 = .ok (.iload_n 1, 1) := by decide +kernel
theorem dX7_replace_1 : decode cX7_replace 1 = .ok (.ifCond .lt 12, 3) := by decide +kernel
theorem dX7_replace_4 : decode cX7_replace 4 = .ok (.iload_n 1, 1) := by decide +kernel
theorem dX7_replace_5 : decode cX7_replace 5 = .ok (.aload_n 0, 1) := by decide +kernel
theorem dX7_replace_6 : decode cX7_replace 6 = .ok (.getfield 9, 3) := by decide +kernel
theorem dX7_replace_9 : decode cX7_replace 9 = .ok (.arraylength, 1) := by decide +kernel
theorem dX7_replace_10 : decode cX7_replace 10 = .ok (.if_icmp .lt 5, 3) := by decide +kernel
theorem dX7_replace_13 : decode cX7_replace 13 = .ok (.iconst 0, 1) := by decide +kernel
theorem dX7_replace_14 : decode cX7_replace 14 = .ok (.ireturn, 1) := by decide +kernel
theorem dX7_replace_15 : decode cX7_replace 15 = .ok (.aload_n 0, 1) := by decide +kernel
theorem dX7_replace_16 : decode cX7_replace 16 = .ok (.getfield 9, 3) := by decide +kernel
theorem dX7_replace_19 : decode cX7_replace 19 = .ok (.iload_n 1, 1) := by decide +kernel
theorem dX7_replace_20 : decode cX7_replace 20 = .ok (.iaload, 1) := by decide +kernel
theorem dX7_replace_21 : decode cX7_replace 21 = .ok (.iconst (-1), 1) := by decide +kernel
theorem dX7_replace_22 : decode cX7_replace 22 = .ok (.if_icmp .eq 7, 3) := by decide +kernel
theorem dX7_replace_25 : decode cX7_replace 25 = .ok (.iconst 1, 1) := by decide +kernel
theorem dX7_replace_26 : decode cX7_replace 26 = .ok (.goto 4, 3) := by decide +kernel
theorem dX7_replace_29 : decode cX7_replace 29 = .ok (.iconst 0, 1) := by decide +kernel
theorem dX7_replace_30 : decode cX7_replace 30 = .ok (.istore_n 3, 1) := by decide +kernel
theorem dX7_replace_31 : decode cX7_replace 31 = .ok (.aload_n 0, 1) := by decide +kernel
theorem dX7_replace_32 : decode cX7_replace 32 = .ok (.getfield 9, 3) := by decide +kernel
theorem dX7_replace_35 : decode cX7_replace 35 = .ok (.iload_n 1, 1) := by decide +kernel
theorem dX7_replace_36 : decode cX7_replace 36 = .ok (.iload_n 2, 1) := by decide +kernel
theorem dX7_replace_37 : decode cX7_replace 37 = .ok (.iastore, 1) := by decide +kernel
theorem dX7_replace_38 : decode cX7_replace 38 = .ok (.iload_n 3, 1) := by decide +kernel
theorem dX7_replace_39 : decode cX7_replace 39 = .ok (.ireturn, 1) := by decide +kernel
theorem dX7_allThere_0 : decode cX7_allThere 0 = .ok (.lconst 0, 1) := by decide +kernel
theorem dX7_allThere_1 : decode cX7_allThere 1 = .ok (.lstore_n 1, 1) := by decide +kernel
theorem dX7_allThere_2 : decode cX7_allThere 2 = .ok (.iconst 0, 1) := by decide +kernel
theorem dX7_allThere_3 : decode cX7_allThere 3 = .ok (.istore_n 3, 1) := by decide +kernel
theorem dX7_allThere_4 : decode cX7_allThere 4 = .ok (.iload_n 3, 1) := by decide +kernel
theorem dX7_allThere_5 : decode cX7_allThere 5 = .ok (.aload_n 0, 1) := by decide +kernel
theorem dX7_allThere_6 : decode cX7_allThere 6 = .ok (.getfield 9, 3) := by decide +kernel
theorem dX7_allThere_9 : decode cX7_allThere 9 = .ok (.arraylength, 1) := by decide +kernel
theorem dX7_allThere_10 : decode cX7_allThere 10 = .ok (.if_icmp .ge 25, 3) := by decide +kernel
theorem dX7_allThere_13 : decode cX7_allThere 13 = .ok (.aload_n 0, 1) := by decide +kernel
theorem dX7_allThere_14 : decode cX7_allThere 14 = .ok (.getfield 9, 3) := by decide +kernel
theorem dX7_allThere_17 : decode cX7_allThere 17 = .ok (.iload_n 3, 1) := by decide +kernel
theorem dX7_allThere_18 : decode cX7_allThere 18 = .ok (.iaload, 1) := by decide +kernel
theorem dX7_allThere_19 : decode cX7_allThere 19 = .ok (.iconst (-1), 1) := by decide +kernel
theorem dX7_allThere_20 : decode cX7_allThere 20 = .ok (.if_icmp .eq 9, 3) := by decide +kernel
theorem dX7_allThere_23 : decode cX7_allThere 23 = .ok (.lload_n 1, 1) := by decide +kernel
theorem dX7_allThere_24 : decode cX7_allThere 24 = .ok (.lconst 1, 1) := by decide +kernel
theorem dX7_allThere_25 : decode cX7_allThere 25 = .ok (.iload_n 3, 1) := by decide +kernel
theorem dX7_allThere_26 : decode cX7_allThere 26 = .ok (.lshl, 1) := by decide +kernel
theorem dX7_allThere_27 : decode cX7_allThere 27 = .ok (.lor, 1) := by decide +kernel
theorem dX7_allThere_28 : decode cX7_allThere 28 = .ok (.lstore_n 1, 1) := by decide +kernel
theorem dX7_allThere_29 : decode cX7_allThere 29 = .ok (.iinc 3 1, 3) := by decide +kernel
theorem dX7_allThere_32 : decode cX7_allThere 32 = .ok (.goto (-28), 3) := by decide +kernel
theorem dX7_allThere_35 : decode cX7_allThere 35 = .ok (.lload_n 1, 1) := by decide +kernel
theorem dX7_allThere_36 : decode cX7_allThere 36 = .ok (.lreturn, 1) := by decide +kernel
theorem dX7_truthsOf_0 : decode cX7_truthsOf 0 = .ok (.lconst 0, 1) := by decide +kernel
theorem dX7_truthsOf_1 : decode cX7_truthsOf 1 = .ok (.lstore_n 2, 1) := by decide +kernel
theorem dX7_truthsOf_2 : decode cX7_truthsOf 2 = .ok (.iconst 0, 1) := by decide +kernel
theorem dX7_truthsOf_3 : decode cX7_truthsOf 3 = .ok (.istore 4, 2) := by decide +kernel
theorem dX7_truthsOf_5 : decode cX7_truthsOf 5 = .ok (.iload 4, 2) := by decide +kernel
theorem dX7_truthsOf_7 : decode cX7_truthsOf 7 = .ok (.aload_n 0, 1) := by decide +kernel
theorem dX7_truthsOf_8 : decode cX7_truthsOf 8 = .ok (.getfield 9, 3) := by decide +kernel
theorem dX7_truthsOf_11 : decode cX7_truthsOf 11 = .ok (.arraylength, 1) := by decide +kernel
theorem dX7_truthsOf_12 : decode cX7_truthsOf 12 = .ok (.if_icmp .ge 41, 3) := by decide +kernel
theorem dX7_truthsOf_15 : decode cX7_truthsOf 15 = .ok (.aload_n 0, 1) := by decide +kernel
theorem dX7_truthsOf_16 : decode cX7_truthsOf 16 = .ok (.getfield 9, 3) := by decide +kernel
theorem dX7_truthsOf_19 : decode cX7_truthsOf 19 = .ok (.iload 4, 2) := by decide +kernel
theorem dX7_truthsOf_21 : decode cX7_truthsOf 21 = .ok (.iaload, 1) := by decide +kernel
theorem dX7_truthsOf_22 : decode cX7_truthsOf 22 = .ok (.iconst (-1), 1) := by decide +kernel
theorem dX7_truthsOf_23 : decode cX7_truthsOf 23 = .ok (.if_icmp .eq 24, 3) := by decide +kernel
theorem dX7_truthsOf_26 : decode cX7_truthsOf 26 = .ok (.iload_n 1, 1) := by decide +kernel
theorem dX7_truthsOf_27 : decode cX7_truthsOf 27 = .ok (.aload_n 0, 1) := by decide +kernel
theorem dX7_truthsOf_28 : decode cX7_truthsOf 28 = .ok (.getfield 9, 3) := by decide +kernel
theorem dX7_truthsOf_31 : decode cX7_truthsOf 31 = .ok (.iload 4, 2) := by decide +kernel
theorem dX7_truthsOf_33 : decode cX7_truthsOf 33 = .ok (.iaload, 1) := by decide +kernel
theorem dX7_truthsOf_34 : decode cX7_truthsOf 34 = .ok (.invokestatic 21, 3) := by decide +kernel
theorem dX7_truthsOf_37 : decode cX7_truthsOf 37 = .ok (.ifCond .eq 10, 3) := by decide +kernel
theorem dX7_truthsOf_40 : decode cX7_truthsOf 40 = .ok (.lload_n 2, 1) := by decide +kernel
theorem dX7_truthsOf_41 : decode cX7_truthsOf 41 = .ok (.lconst 1, 1) := by decide +kernel
theorem dX7_truthsOf_42 : decode cX7_truthsOf 42 = .ok (.iload 4, 2) := by decide +kernel
theorem dX7_truthsOf_44 : decode cX7_truthsOf 44 = .ok (.lshl, 1) := by decide +kernel
theorem dX7_truthsOf_45 : decode cX7_truthsOf 45 = .ok (.lor, 1) := by decide +kernel
theorem dX7_truthsOf_46 : decode cX7_truthsOf 46 = .ok (.lstore_n 2, 1) := by decide +kernel
theorem dX7_truthsOf_47 : decode cX7_truthsOf 47 = .ok (.iinc 4 1, 3) := by decide +kernel
theorem dX7_truthsOf_50 : decode cX7_truthsOf 50 = .ok (.goto (-45), 3) := by decide +kernel
theorem dX7_truthsOf_53 : decode cX7_truthsOf 53 = .ok (.lload_n 2, 1) := by decide +kernel
theorem dX7_truthsOf_54 : decode cX7_truthsOf 54 = .ok (.lreturn, 1) := by decide +kernel
theorem dX8_init_0 : decode cX8_init 0 = .ok (.aload_n 0, 1) := by decide +kernel
theorem dX8_init_1 : decode cX8_init 1 = .ok (.invokespecial 1, 3) := by decide +kernel
theorem dX8_init_4 : decode cX8_init 4 = .ok (.return_, 1) := by decide +kernel
theorem dX9_init_0 : decode cX9_init 0 = .ok (.aload_n 0, 1) := by decide +kernel
theorem dX9_init_1 : decode cX9_init 1 = .ok (.invokespecial 3, 3) := by decide +kernel
theorem dX9_init_4 : decode cX9_init 4 = .ok (.aload_n 0, 1) := by decide +kernel
theorem dX9_init_5 : decode cX9_init 5 = .ok (.bipush 6, 2) := by decide +kernel
theorem dX9_init_7 : decode cX9_init 7 = .ok (.newarray .int, 2) := by decide +kernel
theorem dX9_init_9 : decode cX9_init 9 = .ok (.putfield 9, 3) := by decide +kernel
theorem dX9_init_12 : decode cX9_init 12 = .ok (.return_, 1) := by decide +kernel
theorem dX9_restart_0 : decode cX9_restart 0 = .ok (.aload_n 0, 1) := by decide +kernel
theorem dX9_restart_1 : decode cX9_restart 1 = .ok (.iload_n 1, 1) := by decide +kernel
theorem dX9_restart_2 : decode cX9_restart 2 = .ok (.putfield 15, 3) := by decide +kernel
theorem dX9_restart_5 : decode cX9_restart 5 = .ok (.aload_n 0, 1) := by decide +kernel
theorem dX9_restart_6 : decode cX9_restart 6 = .ok (.iload_n 2, 1) := by decide +kernel
theorem dX9_restart_7 : decode cX9_restart 7 = .ok (.putfield 19, 3) := by decide +kernel
theorem dX9_restart_10 : decode cX9_restart 10 = .ok (.aload_n 0, 1) := by decide +kernel
theorem dX9_restart_11 : decode cX9_restart 11 = .ok (.iload_n 3, 1) := by decide +kernel
theorem dX9_restart_12 : decode cX9_restart 12 = .ok (.putfield 22, 3) := by decide +kernel
theorem dX9_restart_15 : decode cX9_restart 15 = .ok (.aload_n 0, 1) := by decide +kernel
theorem dX9_restart_16 : decode cX9_restart 16 = .ok (.iconst 0, 1) := by decide +kernel
theorem dX9_restart_17 : decode cX9_restart 17 = .ok (.putfield 26, 3) := by decide +kernel
theorem dX9_restart_20 : decode cX9_restart 20 = .ok (.return_, 1) := by decide +kernel
theorem dX9_append_0 : decode cX9_append 0 = .ok (.aload_n 0, 1) := by decide +kernel
theorem dX9_append_1 : decode cX9_append 1 = .ok (.getfield 26, 3) := by decide +kernel
theorem dX9_append_4 : decode cX9_append 4 = .ok (.ifCond .lt 15, 3) := by decide +kernel
theorem dX9_append_7 : decode cX9_append 7 = .ok (.aload_n 0, 1) := by decide +kernel
theorem dX9_append_8 : decode cX9_append 8 = .ok (.getfield 26, 3) := by decide +kernel
theorem dX9_append_11 : decode cX9_append 11 = .ok (.aload_n 0, 1) := by decide +kernel
theorem dX9_append_12 : decode cX9_append 12 = .ok (.getfield 9, 3) := by decide +kernel
theorem dX9_append_15 : decode cX9_append 15 = .ok (.arraylength, 1) := by decide +kernel
theorem dX9_append_16 : decode cX9_append 16 = .ok (.if_icmp .lt 5, 3) := by decide +kernel
theorem dX9_append_19 : decode cX9_append 19 = .ok (.iconst 0, 1) := by decide +kernel
theorem dX9_append_20 : decode cX9_append 20 = .ok (.ireturn, 1) := by decide +kernel
theorem dX9_append_21 : decode cX9_append 21 = .ok (.aload_n 0, 1) := by decide +kernel
theorem dX9_append_22 : decode cX9_append 22 = .ok (.getfield 9, 3) := by decide +kernel
theorem dX9_append_25 : decode cX9_append 25 = .ok (.aload_n 0, 1) := by decide +kernel
theorem dX9_append_26 : decode cX9_append 26 = .ok (.getfield 26, 3) := by decide +kernel
theorem dX9_append_29 : decode cX9_append 29 = .ok (.iload_n 1, 1) := by decide +kernel
theorem dX9_append_30 : decode cX9_append 30 = .ok (.iastore, 1) := by decide +kernel
theorem dX9_append_31 : decode cX9_append 31 = .ok (.aload_n 0, 1) := by decide +kernel
theorem dX9_append_32 : decode cX9_append 32 = .ok (.dup, 1) := by decide +kernel
theorem dX9_append_33 : decode cX9_append 33 = .ok (.getfield 26, 3) := by decide +kernel
theorem dX9_append_36 : decode cX9_append 36 = .ok (.iconst 1, 1) := by decide +kernel
theorem dX9_append_37 : decode cX9_append 37 = .ok (.iadd, 1) := by decide +kernel
theorem dX9_append_38 : decode cX9_append 38 = .ok (.putfield 26, 3) := by decide +kernel
theorem dX9_append_41 : decode cX9_append 41 = .ok (.iconst 1, 1) := by decide +kernel
theorem dX9_append_42 : decode cX9_append 42 = .ok (.ireturn, 1) := by decide +kernel
theorem dX9_isTrueOf_0 : decode cX9_isTrueOf 0 = .ok (.iconst 0, 1) := by decide +kernel
theorem dX9_isTrueOf_1 : decode cX9_isTrueOf 1 = .ok (.istore_n 2, 1) := by decide +kernel
theorem dX9_isTrueOf_2 : decode cX9_isTrueOf 2 = .ok (.iconst 0, 1) := by decide +kernel
theorem dX9_isTrueOf_3 : decode cX9_isTrueOf 3 = .ok (.istore_n 3, 1) := by decide +kernel
theorem dX9_isTrueOf_4 : decode cX9_isTrueOf 4 = .ok (.iload_n 3, 1) := by decide +kernel
theorem dX9_isTrueOf_5 : decode cX9_isTrueOf 5 = .ok (.aload_n 0, 1) := by decide +kernel
theorem dX9_isTrueOf_6 : decode cX9_isTrueOf 6 = .ok (.getfield 26, 3) := by decide +kernel
theorem dX9_isTrueOf_9 : decode cX9_isTrueOf 9 = .ok (.if_icmp .ge 34, 3) := by decide +kernel
theorem dX9_isTrueOf_12 : decode cX9_isTrueOf 12 = .ok (.iload_n 3, 1) := by decide +kernel
theorem dX9_isTrueOf_13 : decode cX9_isTrueOf 13 = .ok (.aload_n 0, 1) := by decide +kernel
theorem dX9_isTrueOf_14 : decode cX9_isTrueOf 14 = .ok (.getfield 9, 3) := by decide +kernel
theorem dX9_isTrueOf_17 : decode cX9_isTrueOf 17 = .ok (.arraylength, 1) := by decide +kernel
theorem dX9_isTrueOf_18 : decode cX9_isTrueOf 18 = .ok (.if_icmp .ge 25, 3) := by decide +kernel
theorem dX9_isTrueOf_21 : decode cX9_isTrueOf 21 = .ok (.aload_n 0, 1) := by decide +kernel
theorem dX9_isTrueOf_22 : decode cX9_isTrueOf 22 = .ok (.getfield 9, 3) := by decide +kernel
theorem dX9_isTrueOf_25 : decode cX9_isTrueOf 25 = .ok (.iload_n 3, 1) := by decide +kernel
theorem dX9_isTrueOf_26 : decode cX9_isTrueOf 26 = .ok (.iaload, 1) := by decide +kernel
theorem dX9_isTrueOf_27 : decode cX9_isTrueOf 27 = .ok (.iload_n 1, 1) := by decide +kernel
theorem dX9_isTrueOf_28 : decode cX9_isTrueOf 28 = .ok (.invokestatic 29, 3) := by decide +kernel
theorem dX9_isTrueOf_31 : decode cX9_isTrueOf 31 = .ok (.ifCond .eq 6, 3) := by decide +kernel
theorem dX9_isTrueOf_34 : decode cX9_isTrueOf 34 = .ok (.iinc 2 1, 3) := by decide +kernel
theorem dX9_isTrueOf_37 : decode cX9_isTrueOf 37 = .ok (.iinc 3 1, 3) := by decide +kernel
theorem dX9_isTrueOf_40 : decode cX9_isTrueOf 40 = .ok (.goto (-36), 3) := by decide +kernel
theorem dX9_isTrueOf_43 : decode cX9_isTrueOf 43 = .ok (.iload_n 2, 1) := by decide +kernel
theorem dX9_isTrueOf_44 : decode cX9_isTrueOf 44 = .ok (.aload_n 0, 1) := by decide +kernel
theorem dX9_isTrueOf_45 : decode cX9_isTrueOf 45 = .ok (.getfield 26, 3) := by decide +kernel
theorem dX9_isTrueOf_48 : decode cX9_isTrueOf 48 = .ok (.aload_n 0, 1) := by decide +kernel
theorem dX9_isTrueOf_49 : decode cX9_isTrueOf 49 = .ok (.getfield 15, 3) := by decide +kernel
theorem dX9_isTrueOf_52 : decode cX9_isTrueOf 52 = .ok (.aload_n 0, 1) := by decide +kernel
theorem dX9_isTrueOf_53 : decode cX9_isTrueOf 53 = .ok (.getfield 19, 3) := by decide +kernel
theorem dX9_isTrueOf_56 : decode cX9_isTrueOf 56 = .ok (.invokestatic 33, 3) := by decide +kernel
theorem dX9_isTrueOf_59 : decode cX9_isTrueOf 59 = .ok (.aload_n 0, 1) := by decide +kernel
theorem dX9_isTrueOf_60 : decode cX9_isTrueOf 60 = .ok (.getfield 22, 3) := by decide +kernel
theorem dX9_isTrueOf_63 : decode cX9_isTrueOf 63 = .ok (.if_icmp .eq 7, 3) := by decide +kernel
theorem dX9_isTrueOf_66 : decode cX9_isTrueOf 66 = .ok (.iconst 1, 1) := by decide +kernel
theorem dX9_isTrueOf_67 : decode cX9_isTrueOf 67 = .ok (.goto 4, 3) := by decide +kernel
theorem dX9_isTrueOf_70 : decode cX9_isTrueOf 70 = .ok (.iconst 0, 1) := by decide +kernel
theorem dX9_isTrueOf_71 : decode cX9_isTrueOf 71 = .ok (.ireturn, 1) := by decide +kernel
