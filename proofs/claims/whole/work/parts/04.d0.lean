theorem dX0_init_0 : decode cX0_init 0 = .ok (.aload_n 0, 1) := by decide +kernel
theorem dX0_init_1 : decode cX0_init 1 = .ok (.invokespecial 3, 3) := by decide +kernel
theorem dX0_init_4 : decode cX0_init 4 = .ok (.aload_n 0, 1) := by decide +kernel
theorem dX0_init_5 : decode cX0_init 5 = .ok (.bipush 6, 2) := by decide +kernel
theorem dX0_init_7 : decode cX0_init 7 = .ok (.anewarray 4, 3) := by decide +kernel
theorem dX0_init_10 : decode cX0_init 10 = .ok (.putfield 9, 3) := by decide +kernel
theorem dX0_init_13 : decode cX0_init 13 = .ok (.return_, 1) := by decide +kernel
theorem dX0_restart_0 : decode cX0_restart 0 = .ok (.aload_n 0, 1) := by decide +kernel
theorem dX0_restart_1 : decode cX0_restart 1 = .ok (.iload_n 1, 1) := by decide +kernel
theorem dX0_restart_2 : decode cX0_restart 2 = .ok (.putfield 15, 3) := by decide +kernel
theorem dX0_restart_5 : decode cX0_restart 5 = .ok (.aload_n 0, 1) := by decide +kernel
theorem dX0_restart_6 : decode cX0_restart 6 = .ok (.iload_n 2, 1) := by decide +kernel
theorem dX0_restart_7 : decode cX0_restart 7 = .ok (.putfield 19, 3) := by decide +kernel
theorem dX0_restart_10 : decode cX0_restart 10 = .ok (.aload_n 0, 1) := by decide +kernel
theorem dX0_restart_11 : decode cX0_restart 11 = .ok (.iconst 0, 1) := by decide +kernel
theorem dX0_restart_12 : decode cX0_restart 12 = .ok (.putfield 22, 3) := by decide +kernel
theorem dX0_restart_15 : decode cX0_restart 15 = .ok (.aload_n 0, 1) := by decide +kernel
theorem dX0_restart_16 : decode cX0_restart 16 = .ok (.lload_n 3, 1) := by decide +kernel
theorem dX0_restart_17 : decode cX0_restart 17 = .ok (.putfield 25, 3) := by decide +kernel
theorem dX0_restart_20 : decode cX0_restart 20 = .ok (.aload_n 0, 1) := by decide +kernel
theorem dX0_restart_21 : decode cX0_restart 21 = .ok (.iconst (-1), 1) := by decide +kernel
theorem dX0_restart_22 : decode cX0_restart 22 = .ok (.putfield 29, 3) := by decide +kernel
theorem dX0_restart_25 : decode cX0_restart 25 = .ok (.return_, 1) := by decide +kernel
theorem dX0_partAt_0 : decode cX0_partAt 0 = .ok (.iload_n 1, 1) := by decide +kernel
theorem dX0_partAt_1 : decode cX0_partAt 1 = .ok (.ifCond .lt 29, 3) := by decide +kernel
theorem dX0_partAt_4 : decode cX0_partAt 4 = .ok (.iload_n 1, 1) := by decide +kernel
theorem dX0_partAt_5 : decode cX0_partAt 5 = .ok (.aload_n 0, 1) := by decide +kernel
theorem dX0_partAt_6 : decode cX0_partAt 6 = .ok (.getfield 22, 3) := by decide +kernel
theorem dX0_partAt_9 : decode cX0_partAt 9 = .ok (.if_icmp .ge 21, 3) := by decide +kernel
theorem dX0_partAt_12 : decode cX0_partAt 12 = .ok (.iload_n 1, 1) := by decide +kernel
theorem dX0_partAt_13 : decode cX0_partAt 13 = .ok (.aload_n 0, 1) := by decide +kernel
theorem dX0_partAt_14 : decode cX0_partAt 14 = .ok (.getfield 9, 3) := by decide +kernel
theorem dX0_partAt_17 : decode cX0_partAt 17 = .ok (.arraylength, 1) := by decide +kernel
theorem dX0_partAt_18 : decode cX0_partAt 18 = .ok (.if_icmp .ge 12, 3) := by decide +kernel
theorem dX0_partAt_21 : decode cX0_partAt 21 = .ok (.aload_n 0, 1) := by decide +kernel
theorem dX0_partAt_22 : decode cX0_partAt 22 = .ok (.getfield 9, 3) := by decide +kernel
theorem dX0_partAt_25 : decode cX0_partAt 25 = .ok (.iload_n 1, 1) := by decide +kernel
theorem dX0_partAt_26 : decode cX0_partAt 26 = .ok (.aaload, 1) := by decide +kernel
theorem dX0_partAt_27 : decode cX0_partAt 27 = .ok (.goto 4, 3) := by decide +kernel
theorem dX0_partAt_30 : decode cX0_partAt 30 = .ok (.aconst_null, 1) := by decide +kernel
theorem dX0_partAt_31 : decode cX0_partAt 31 = .ok (.areturn, 1) := by decide +kernel
theorem dX0_hasRank_0 : decode cX0_hasRank 0 = .ok (.iconst 0, 1) := by decide +kernel
theorem dX0_hasRank_1 : decode cX0_hasRank 1 = .ok (.istore_n 2, 1) := by decide +kernel
theorem dX0_hasRank_2 : decode cX0_hasRank 2 = .ok (.iload_n 2, 1) := by decide +kernel
theorem dX0_hasRank_3 : decode cX0_hasRank 3 = .ok (.aload_n 0, 1) := by decide +kernel
theorem dX0_hasRank_4 : decode cX0_hasRank 4 = .ok (.getfield 22, 3) := by decide +kernel
theorem dX0_hasRank_7 : decode cX0_hasRank 7 = .ok (.if_icmp .ge 29, 3) := by decide +kernel
theorem dX0_hasRank_10 : decode cX0_hasRank 10 = .ok (.aload_n 0, 1) := by decide +kernel
theorem dX0_hasRank_11 : decode cX0_hasRank 11 = .ok (.iload_n 2, 1) := by decide +kernel
theorem dX0_hasRank_12 : decode cX0_hasRank 12 = .ok (.invokevirtual 32, 3) := by decide +kernel
theorem dX0_hasRank_15 : decode cX0_hasRank 15 = .ok (.astore_n 3, 1) := by decide +kernel
theorem dX0_hasRank_16 : decode cX0_hasRank 16 = .ok (.aload_n 3, 1) := by decide +kernel
theorem dX0_hasRank_17 : decode cX0_hasRank 17 = .ok (.ifnull 13, 3) := by decide +kernel
theorem dX0_hasRank_20 : decode cX0_hasRank 20 = .ok (.aload_n 3, 1) := by decide +kernel
theorem dX0_hasRank_21 : decode cX0_hasRank 21 = .ok (.getfield 36, 3) := by decide +kernel
theorem dX0_hasRank_24 : decode cX0_hasRank 24 = .ok (.iload_n 1, 1) := by decide +kernel
theorem dX0_hasRank_25 : decode cX0_hasRank 25 = .ok (.if_icmp .ne 5, 3) := by decide +kernel
theorem dX0_hasRank_28 : decode cX0_hasRank 28 = .ok (.iconst 1, 1) := by decide +kernel
theorem dX0_hasRank_29 : decode cX0_hasRank 29 = .ok (.ireturn, 1) := by decide +kernel
theorem dX0_hasRank_30 : decode cX0_hasRank 30 = .ok (.iinc 2 1, 3) := by decide +kernel
theorem dX0_hasRank_33 : decode cX0_hasRank 33 = .ok (.goto (-31), 3) := by decide +kernel
theorem dX0_hasRank_36 : decode cX0_hasRank 36 = .ok (.iconst 0, 1) := by decide +kernel
theorem dX0_hasRank_37 : decode cX0_hasRank 37 = .ok (.ireturn, 1) := by decide +kernel
theorem dX0_keep_0 : decode cX0_keep 0 = .ok (.aload_n 0, 1) := by decide +kernel
theorem dX0_keep_1 : decode cX0_keep 1 = .ok (.getfield 22, 3) := by decide +kernel
theorem dX0_keep_4 : decode cX0_keep 4 = .ok (.ifCond .lt 35, 3) := by decide +kernel
theorem dX0_keep_7 : decode cX0_keep 7 = .ok (.aload_n 0, 1) := by decide +kernel
theorem dX0_keep_8 : decode cX0_keep 8 = .ok (.getfield 22, 3) := by decide +kernel
theorem dX0_keep_11 : decode cX0_keep 11 = .ok (.aload_n 0, 1) := by decide +kernel
theorem dX0_keep_12 : decode cX0_keep 12 = .ok (.getfield 9, 3) := by decide +kernel
theorem dX0_keep_15 : decode cX0_keep 15 = .ok (.arraylength, 1) := by decide +kernel
theorem dX0_keep_16 : decode cX0_keep 16 = .ok (.if_icmp .ge 23, 3) := by decide +kernel
theorem dX0_keep_19 : decode cX0_keep 19 = .ok (.aload_n 0, 1) := by decide +kernel
theorem dX0_keep_20 : decode cX0_keep 20 = .ok (.getfield 9, 3) := by decide +kernel
theorem dX0_keep_23 : decode cX0_keep 23 = .ok (.aload_n 0, 1) := by decide +kernel
theorem dX0_keep_24 : decode cX0_keep 24 = .ok (.getfield 22, 3) := by decide +kernel
theorem dX0_keep_27 : decode cX0_keep 27 = .ok (.aload_n 1, 1) := by decide +kernel
theorem dX0_keep_28 : decode cX0_keep 28 = .ok (.aastore, 1) := by decide +kernel
theorem dX0_keep_29 : decode cX0_keep 29 = .ok (.aload_n 0, 1) := by decide +kernel
theorem dX0_keep_30 : decode cX0_keep 30 = .ok (.dup, 1) := by decide +kernel
theorem dX0_keep_31 : decode cX0_keep 31 = .ok (.getfield 22, 3) := by decide +kernel
theorem dX0_keep_34 : decode cX0_keep 34 = .ok (.iconst 1, 1) := by decide +kernel
theorem dX0_keep_35 : decode cX0_keep 35 = .ok (.iadd, 1) := by decide +kernel
theorem dX0_keep_36 : decode cX0_keep 36 = .ok (.putfield 22, 3) := by decide +kernel
theorem dX0_keep_39 : decode cX0_keep 39 = .ok (.return_, 1) := by decide +kernel
theorem dX0_isFixed_0 : decode cX0_isFixed 0 = .ok (.aload_n 0, 1) := by decide +kernel
theorem dX0_isFixed_1 : decode cX0_isFixed 1 = .ok (.getfield 15, 3) := by decide +kernel
theorem dX0_isFixed_4 : decode cX0_isFixed 4 = .ok (.iconst 3, 1) := by decide +kernel
theorem dX0_isFixed_5 : decode cX0_isFixed 5 = .ok (.if_icmp .eq 11, 3) := by decide +kernel
theorem dX0_isFixed_8 : decode cX0_isFixed 8 = .ok (.aload_n 0, 1) := by decide +kernel
theorem dX0_isFixed_9 : decode cX0_isFixed 9 = .ok (.getfield 15, 3) := by decide +kernel
theorem dX0_isFixed_12 : decode cX0_isFixed 12 = .ok (.iconst 4, 1) := by decide +kernel
theorem dX0_isFixed_13 : decode cX0_isFixed 13 = .ok (.if_icmp .ne 7, 3) := by decide +kernel
theorem dX0_isFixed_16 : decode cX0_isFixed 16 = .ok (.iconst 1, 1) := by decide +kernel
theorem dX0_isFixed_17 : decode cX0_isFixed 17 = .ok (.goto 4, 3) := by decide +kernel
theorem dX0_isFixed_20 : decode cX0_isFixed 20 = .ok (.iconst 0, 1) := by decide +kernel
theorem dX0_isFixed_21 : decode cX0_isFixed 21 = .ok (.ireturn, 1) := by decide +kernel
theorem dX0_fix_0 : decode cX0_fix 0 = .ok (.aload_n 0, 1) := by decide +kernel
theorem dX0_fix_1 : decode cX0_fix 1 = .ok (.iload_n 1, 1) := by decide +kernel
theorem dX0_fix_2 : decode cX0_fix 2 = .ok (.putfield 15, 3) := by decide +kernel
theorem dX0_fix_5 : decode cX0_fix 5 = .ok (.aload_n 0, 1) := by decide +kernel
theorem dX0_fix_6 : decode cX0_fix 6 = .ok (.iconst 0, 1) := by decide +kernel
theorem dX0_fix_7 : decode cX0_fix 7 = .ok (.putfield 22, 3) := by decide +kernel
theorem dX0_fix_10 : decode cX0_fix 10 = .ok (.return_, 1) := by decide +kernel
theorem dX0_settleSome_0 : decode cX0_settleSome 0 = .ok (.aload_n 0, 1) := by decide +kernel
theorem dX0_settleSome_1 : decode cX0_settleSome 1 = .ok (.getfield 15, 3) := by decide +kernel
theorem dX0_settleSome_4 : decode cX0_settleSome 4 = .ok (.iconst 2, 1) := by decide +kernel
theorem dX0_settleSome_5 : decode cX0_settleSome 5 = .ok (.if_icmp .eq 4, 3) := by decide +kernel
theorem dX0_settleSome_8 : decode cX0_settleSome 8 = .ok (.return_, 1) := by decide +kernel
theorem dX0_settleSome_9 : decode cX0_settleSome 9 = .ok (.aload_n 0, 1) := by decide +kernel
theorem dX0_settleSome_10 : decode cX0_settleSome 10 = .ok (.getfield 19, 3) := by decide +kernel
theorem dX0_settleSome_13 : decode cX0_settleSome 13 = .ok (.ifCond .gt 11, 3) := by decide +kernel
theorem dX0_settleSome_16 : decode cX0_settleSome 16 = .ok (.aload_n 0, 1) := by decide +kernel
theorem dX0_settleSome_17 : decode cX0_settleSome 17 = .ok (.iconst 3, 1) := by decide +kernel
theorem dX0_settleSome_18 : decode cX0_settleSome 18 = .ok (.invokevirtual 39, 3) := by decide +kernel
theorem dX0_settleSome_21 : decode cX0_settleSome 21 = .ok (.goto 48, 3) := by decide +kernel
theorem dX0_settleSome_24 : decode cX0_settleSome 24 = .ok (.aload_n 0, 1) := by decide +kernel
theorem dX0_settleSome_25 : decode cX0_settleSome 25 = .ok (.getfield 19, 3) := by decide +kernel
theorem dX0_settleSome_28 : decode cX0_settleSome 28 = .ok (.iload_n 1, 1) := by decide +kernel
theorem dX0_settleSome_29 : decode cX0_settleSome 29 = .ok (.if_icmp .le 11, 3) := by decide +kernel
theorem dX0_settleSome_32 : decode cX0_settleSome 32 = .ok (.aload_n 0, 1) := by decide +kernel
theorem dX0_settleSome_33 : decode cX0_settleSome 33 = .ok (.iconst 4, 1) := by decide +kernel
theorem dX0_settleSome_34 : decode cX0_settleSome 34 = .ok (.invokevirtual 39, 3) := by decide +kernel
theorem dX0_settleSome_37 : decode cX0_settleSome 37 = .ok (.goto 32, 3) := by decide +kernel
theorem dX0_settleSome_40 : decode cX0_settleSome 40 = .ok (.aload_n 0, 1) := by decide +kernel
theorem dX0_settleSome_41 : decode cX0_settleSome 41 = .ok (.getfield 19, 3) := by decide +kernel
theorem dX0_settleSome_44 : decode cX0_settleSome 44 = .ok (.iconst 1, 1) := by decide +kernel
theorem dX0_settleSome_45 : decode cX0_settleSome 45 = .ok (.if_icmp .ne 11, 3) := by decide +kernel
theorem dX0_settleSome_48 : decode cX0_settleSome 48 = .ok (.aload_n 0, 1) := by decide +kernel
theorem dX0_settleSome_49 : decode cX0_settleSome 49 = .ok (.iconst 1, 1) := by decide +kernel
theorem dX0_settleSome_50 : decode cX0_settleSome 50 = .ok (.putfield 15, 3) := by decide +kernel
theorem dX0_settleSome_53 : decode cX0_settleSome 53 = .ok (.goto 16, 3) := by decide +kernel
theorem dX0_settleSome_56 : decode cX0_settleSome 56 = .ok (.aload_n 0, 1) := by decide +kernel
theorem dX0_settleSome_57 : decode cX0_settleSome 57 = .ok (.getfield 19, 3) := by decide +kernel
theorem dX0_settleSome_60 : decode cX0_settleSome 60 = .ok (.iload_n 1, 1) := by decide +kernel
theorem dX0_settleSome_61 : decode cX0_settleSome 61 = .ok (.if_icmp .ne 8, 3) := by decide +kernel
theorem dX0_settleSome_64 : decode cX0_settleSome 64 = .ok (.aload_n 0, 1) := by decide +kernel
theorem dX0_settleSome_65 : decode cX0_settleSome 65 = .ok (.iconst 0, 1) := by decide +kernel
theorem dX0_settleSome_66 : decode cX0_settleSome 66 = .ok (.putfield 15, 3) := by decide +kernel
theorem dX0_settleSome_69 : decode cX0_settleSome 69 = .ok (.return_, 1) := by decide +kernel
theorem dX0_settleEmpty_0 : decode cX0_settleEmpty 0 = .ok (.aload_n 0, 1) := by decide +kernel
theorem dX0_settleEmpty_1 : decode cX0_settleEmpty 1 = .ok (.getfield 22, 3) := by decide +kernel
theorem dX0_settleEmpty_4 : decode cX0_settleEmpty 4 = .ok (.ifCond .ne 18, 3) := by decide +kernel
theorem dX0_settleEmpty_7 : decode cX0_settleEmpty 7 = .ok (.aload_n 0, 1) := by decide +kernel
theorem dX0_settleEmpty_8 : decode cX0_settleEmpty 8 = .ok (.getfield 15, 3) := by decide +kernel
theorem dX0_settleEmpty_11 : decode cX0_settleEmpty 11 = .ok (.ifCond .ne 11, 3) := by decide +kernel
theorem dX0_settleEmpty_14 : decode cX0_settleEmpty 14 = .ok (.aload_n 0, 1) := by decide +kernel
theorem dX0_settleEmpty_15 : decode cX0_settleEmpty 15 = .ok (.iconst 3, 1) := by decide +kernel
theorem dX0_settleEmpty_16 : decode cX0_settleEmpty 16 = .ok (.invokevirtual 39, 3) := by decide +kernel
theorem dX0_settleEmpty_19 : decode cX0_settleEmpty 19 = .ok (.goto 23, 3) := by decide +kernel
theorem dX0_settleEmpty_22 : decode cX0_settleEmpty 22 = .ok (.aload_n 0, 1) := by decide +kernel
theorem dX0_settleEmpty_23 : decode cX0_settleEmpty 23 = .ok (.getfield 22, 3) := by decide +kernel
theorem dX0_settleEmpty_26 : decode cX0_settleEmpty 26 = .ok (.ifCond .ne 16, 3) := by decide +kernel
theorem dX0_settleEmpty_29 : decode cX0_settleEmpty 29 = .ok (.aload_n 0, 1) := by decide +kernel
theorem dX0_settleEmpty_30 : decode cX0_settleEmpty 30 = .ok (.getfield 15, 3) := by decide +kernel
theorem dX0_settleEmpty_33 : decode cX0_settleEmpty 33 = .ok (.iconst 1, 1) := by decide +kernel
theorem dX0_settleEmpty_34 : decode cX0_settleEmpty 34 = .ok (.if_icmp .ne 8, 3) := by decide +kernel
theorem dX0_settleEmpty_37 : decode cX0_settleEmpty 37 = .ok (.aload_n 0, 1) := by decide +kernel
theorem dX0_settleEmpty_38 : decode cX0_settleEmpty 38 = .ok (.iconst 4, 1) := by decide +kernel
theorem dX0_settleEmpty_39 : decode cX0_settleEmpty 39 = .ok (.invokevirtual 39, 3) := by decide +kernel
theorem dX0_settleEmpty_42 : decode cX0_settleEmpty 42 = .ok (.return_, 1) := by decide +kernel
theorem dX0_appraise_0 : decode cX0_appraise 0 = .ok (.aload_n 0, 1) := by decide +kernel
theorem dX0_appraise_1 : decode cX0_appraise 1 = .ok (.getfield 25, 3) := by decide +kernel
theorem dX0_appraise_4 : decode cX0_appraise 4 = .ok (.invokestatic 43, 3) := by decide +kernel
theorem dX0_appraise_7 : decode cX0_appraise 7 = .ok (.istore_n 1, 1) := by decide +kernel
theorem dX0_appraise_8 : decode cX0_appraise 8 = .ok (.aload_n 0, 1) := by decide +kernel
theorem dX0_appraise_9 : decode cX0_appraise 9 = .ok (.getfield 15, 3) := by decide +kernel
theorem dX0_appraise_12 : decode cX0_appraise 12 = .ok (.tableswitch 99 0 3 #[32, 44, 59, 91], 32) := by decide +kernel
theorem dX0_appraise_44 : decode cX0_appraise 44 = .ok (.aload_n 0, 1) := by decide +kernel
theorem dX0_appraise_45 : decode cX0_appraise 45 = .ok (.aload_n 0, 1) := by decide +kernel
theorem dX0_appraise_46 : decode cX0_appraise 46 = .ok (.iload_n 1, 1) := by decide +kernel
theorem dX0_appraise_47 : decode cX0_appraise 47 = .ok (.invokevirtual 49, 3) := by decide +kernel
theorem dX0_appraise_50 : decode cX0_appraise 50 = .ok (.putfield 53, 3) := by decide +kernel
theorem dX0_appraise_53 : decode cX0_appraise 53 = .ok (.goto 63, 3) := by decide +kernel
theorem dX0_appraise_56 : decode cX0_appraise 56 = .ok (.aload_n 0, 1) := by decide +kernel
theorem dX0_appraise_57 : decode cX0_appraise 57 = .ok (.aload_n 0, 1) := by decide +kernel
theorem dX0_appraise_58 : decode cX0_appraise 58 = .ok (.invokevirtual 56, 3) := by decide +kernel
theorem dX0_appraise_61 : decode cX0_appraise 61 = .ok (.iload_n 1, 1) := by decide +kernel
theorem dX0_appraise_62 : decode cX0_appraise 62 = .ok (.invokestatic 60, 3) := by decide +kernel
theorem dX0_appraise_65 : decode cX0_appraise 65 = .ok (.putfield 53, 3) := by decide +kernel
theorem dX0_appraise_68 : decode cX0_appraise 68 = .ok (.goto 48, 3) := by decide +kernel
theorem dX0_appraise_71 : decode cX0_appraise 71 = .ok (.aload_n 0, 1) := by decide +kernel
theorem dX0_appraise_72 : decode cX0_appraise 72 = .ok (.aload_n 0, 1) := by decide +kernel
theorem dX0_appraise_73 : decode cX0_appraise 73 = .ok (.getfield 19, 3) := by decide +kernel
theorem dX0_appraise_76 : decode cX0_appraise 76 = .ok (.iconst 1, 1) := by decide +kernel
theorem dX0_appraise_77 : decode cX0_appraise 77 = .ok (.if_icmp .ge 7, 3) := by decide +kernel
theorem dX0_appraise_80 : decode cX0_appraise 80 = .ok (.iload_n 1, 1) := by decide +kernel
theorem dX0_appraise_81 : decode cX0_appraise 81 = .ok (.goto 16, 3) := by decide +kernel
theorem dX0_appraise_84 : decode cX0_appraise 84 = .ok (.aload_n 0, 1) := by decide +kernel
theorem dX0_appraise_85 : decode cX0_appraise 85 = .ok (.invokevirtual 56, 3) := by decide +kernel
theorem dX0_appraise_88 : decode cX0_appraise 88 = .ok (.aload_n 0, 1) := by decide +kernel
theorem dX0_appraise_89 : decode cX0_appraise 89 = .ok (.getfield 19, 3) := by decide +kernel
theorem dX0_appraise_92 : decode cX0_appraise 92 = .ok (.idiv, 1) := by decide +kernel
theorem dX0_appraise_93 : decode cX0_appraise 93 = .ok (.iload_n 1, 1) := by decide +kernel
theorem dX0_appraise_94 : decode cX0_appraise 94 = .ok (.invokestatic 60, 3) := by decide +kernel
theorem dX0_appraise_97 : decode cX0_appraise 97 = .ok (.putfield 53, 3) := by decide +kernel
theorem dX0_appraise_100 : decode cX0_appraise 100 = .ok (.goto 16, 3) := by decide +kernel
theorem dX0_appraise_103 : decode cX0_appraise 103 = .ok (.aload_n 0, 1) := by decide +kernel
theorem dX0_appraise_104 : decode cX0_appraise 104 = .ok (.iload_n 1, 1) := by decide +kernel
theorem dX0_appraise_105 : decode cX0_appraise 105 = .ok (.putfield 53, 3) := by decide +kernel
theorem dX0_appraise_108 : decode cX0_appraise 108 = .ok (.goto 8, 3) := by decide +kernel
theorem dX0_appraise_111 : decode cX0_appraise 111 = .ok (.aload_n 0, 1) := by decide +kernel
theorem dX0_appraise_112 : decode cX0_appraise 112 = .ok (.iconst 0, 1) := by decide +kernel
theorem dX0_appraise_113 : decode cX0_appraise 113 = .ok (.putfield 53, 3) := by decide +kernel
theorem dX0_appraise_116 : decode cX0_appraise 116 = .ok (.return_, 1) := by decide +kernel
theorem dX0_leastEstimate_0 : decode cX0_leastEstimate 0 = .ok (.iload_n 1, 1) := by decide +kernel
theorem dX0_leastEstimate_1 : decode cX0_leastEstimate 1 = .ok (.istore_n 2, 1) := by decide +kernel
theorem dX0_leastEstimate_2 : decode cX0_leastEstimate 2 = .ok (.iconst 0, 1) := by decide +kernel
theorem dX0_leastEstimate_3 : decode cX0_leastEstimate 3 = .ok (.istore_n 3, 1) := by decide +kernel
theorem dX0_leastEstimate_4 : decode cX0_leastEstimate 4 = .ok (.iload_n 3, 1) := by decide +kernel
theorem dX0_leastEstimate_5 : decode cX0_leastEstimate 5 = .ok (.aload_n 0, 1) := by decide +kernel
theorem dX0_leastEstimate_6 : decode cX0_leastEstimate 6 = .ok (.getfield 22, 3) := by decide +kernel
theorem dX0_leastEstimate_9 : decode cX0_leastEstimate 9 = .ok (.if_icmp .ge 31, 3) := by decide +kernel
theorem dX0_leastEstimate_12 : decode cX0_leastEstimate 12 = .ok (.aload_n 0, 1) := by decide +kernel
theorem dX0_leastEstimate_13 : decode cX0_leastEstimate 13 = .ok (.iload_n 3, 1) := by decide +kernel
theorem dX0_leastEstimate_14 : decode cX0_leastEstimate 14 = .ok (.invokevirtual 32, 3) := by decide +kernel
theorem dX0_leastEstimate_17 : decode cX0_leastEstimate 17 = .ok (.astore 4, 2) := by decide +kernel
theorem dX0_leastEstimate_19 : decode cX0_leastEstimate 19 = .ok (.aload 4, 2) := by decide +kernel
theorem dX0_leastEstimate_21 : decode cX0_leastEstimate 21 = .ok (.ifnull 13, 3) := by decide +kernel
theorem dX0_leastEstimate_24 : decode cX0_leastEstimate 24 = .ok (.iload_n 2, 1) := by decide +kernel
theorem dX0_leastEstimate_25 : decode cX0_leastEstimate 25 = .ok (.aload 4, 2) := by decide +kernel
theorem dX0_leastEstimate_27 : decode cX0_leastEstimate 27 = .ok (.getfield 66, 3) := by decide +kernel
theorem dX0_leastEstimate_30 : decode cX0_leastEstimate 30 = .ok (.invokestatic 60, 3) := by decide +kernel
theorem dX0_leastEstimate_33 : decode cX0_leastEstimate 33 = .ok (.istore_n 2, 1) := by decide +kernel
theorem dX0_leastEstimate_34 : decode cX0_leastEstimate 34 = .ok (.iinc 3 1, 3) := by decide +kernel
theorem dX0_leastEstimate_37 : decode cX0_leastEstimate 37 = .ok (.goto (-33), 3) := by decide +kernel
theorem dX0_leastEstimate_40 : decode cX0_leastEstimate 40 = .ok (.iload_n 2, 1) := by decide +kernel
theorem dX0_leastEstimate_41 : decode cX0_leastEstimate 41 = .ok (.ireturn, 1) := by decide +kernel
theorem dX0_sumOfEstimates_0 : decode cX0_sumOfEstimates 0 = .ok (.iconst 0, 1) := by decide +kernel
theorem dX0_sumOfEstimates_1 : decode cX0_sumOfEstimates 1 = .ok (.istore_n 1, 1) := by decide +kernel
theorem dX0_sumOfEstimates_2 : decode cX0_sumOfEstimates 2 = .ok (.iconst 0, 1) := by decide +kernel
theorem dX0_sumOfEstimates_3 : decode cX0_sumOfEstimates 3 = .ok (.istore_n 2, 1) := by decide +kernel
theorem dX0_sumOfEstimates_4 : decode cX0_sumOfEstimates 4 = .ok (.iload_n 2, 1) := by decide +kernel
theorem dX0_sumOfEstimates_5 : decode cX0_sumOfEstimates 5 = .ok (.aload_n 0, 1) := by decide +kernel
theorem dX0_sumOfEstimates_6 : decode cX0_sumOfEstimates 6 = .ok (.getfield 22, 3) := by decide +kernel
theorem dX0_sumOfEstimates_9 : decode cX0_sumOfEstimates 9 = .ok (.if_icmp .ge 26, 3) := by decide +kernel
theorem dX0_sumOfEstimates_12 : decode cX0_sumOfEstimates 12 = .ok (.aload_n 0, 1) := by decide +kernel
theorem dX0_sumOfEstimates_13 : decode cX0_sumOfEstimates 13 = .ok (.iload_n 2, 1) := by decide +kernel
theorem dX0_sumOfEstimates_14 : decode cX0_sumOfEstimates 14 = .ok (.invokevirtual 32, 3) := by decide +kernel
theorem dX0_sumOfEstimates_17 : decode cX0_sumOfEstimates 17 = .ok (.astore_n 3, 1) := by decide +kernel
theorem dX0_sumOfEstimates_18 : decode cX0_sumOfEstimates 18 = .ok (.aload_n 3, 1) := by decide +kernel
theorem dX0_sumOfEstimates_19 : decode cX0_sumOfEstimates 19 = .ok (.ifnull 10, 3) := by decide +kernel
theorem dX0_sumOfEstimates_22 : decode cX0_sumOfEstimates 22 = .ok (.iload_n 1, 1) := by decide +kernel
theorem dX0_sumOfEstimates_23 : decode cX0_sumOfEstimates 23 = .ok (.aload_n 3, 1) := by decide +kernel
theorem dX0_sumOfEstimates_24 : decode cX0_sumOfEstimates 24 = .ok (.getfield 66, 3) := by decide +kernel
theorem dX0_sumOfEstimates_27 : decode cX0_sumOfEstimates 27 = .ok (.iadd, 1) := by decide +kernel
theorem dX0_sumOfEstimates_28 : decode cX0_sumOfEstimates 28 = .ok (.istore_n 1, 1) := by decide +kernel
theorem dX0_sumOfEstimates_29 : decode cX0_sumOfEstimates 29 = .ok (.iinc 2 1, 3) := by decide +kernel
theorem dX0_sumOfEstimates_32 : decode cX0_sumOfEstimates 32 = .ok (.goto (-28), 3) := by decide +kernel
theorem dX0_sumOfEstimates_35 : decode cX0_sumOfEstimates 35 = .ok (.iload_n 1, 1) := by decide +kernel
theorem dX0_sumOfEstimates_36 : decode cX0_sumOfEstimates 36 = .ok (.ireturn, 1) := by decide +kernel
theorem dX0_order_0 : decode cX0_order 0 = .ok (.aload_n 0, 1) := by decide +kernel
theorem dX0_order_1 : decode cX0_order 1 = .ok (.getfield 15, 3) := by decide +kernel
theorem dX0_order_4 : decode cX0_order 4 = .ok (.ifCond .eq 4, 3) := by decide +kernel
theorem dX0_order_7 : decode cX0_order 7 = .ok (.return_, 1) := by decide +kernel
theorem dX0_order_8 : decode cX0_order 8 = .ok (.iconst 1, 1) := by decide +kernel
theorem dX0_order_9 : decode cX0_order 9 = .ok (.istore_n 1, 1) := by decide +kernel
theorem dX0_order_10 : decode cX0_order 10 = .ok (.iload_n 1, 1) := by decide +kernel
theorem dX0_order_11 : decode cX0_order 11 = .ok (.aload_n 0, 1) := by decide +kernel
theorem dX0_order_12 : decode cX0_order 12 = .ok (.getfield 22, 3) := by decide +kernel
theorem dX0_order_15 : decode cX0_order 15 = .ok (.if_icmp .ge 81, 3) := by decide +kernel
theorem dX0_order_18 : decode cX0_order 18 = .ok (.iload_n 1, 1) := by decide +kernel
theorem dX0_order_19 : decode cX0_order 19 = .ok (.aload_n 0, 1) := by decide +kernel
theorem dX0_order_20 : decode cX0_order 20 = .ok (.getfield 9, 3) := by decide +kernel
theorem dX0_order_23 : decode cX0_order 23 = .ok (.arraylength, 1) := by decide +kernel
theorem dX0_order_24 : decode cX0_order 24 = .ok (.if_icmp .ge 72, 3) := by decide +kernel
theorem dX0_order_27 : decode cX0_order 27 = .ok (.iload_n 1, 1) := by decide +kernel
theorem dX0_order_28 : decode cX0_order 28 = .ok (.istore_n 2, 1) := by decide +kernel
theorem dX0_order_29 : decode cX0_order 29 = .ok (.iload_n 2, 1) := by decide +kernel
theorem dX0_order_30 : decode cX0_order 30 = .ok (.ifCond .le 60, 3) := by decide +kernel
theorem dX0_order_33 : decode cX0_order 33 = .ok (.aload_n 0, 1) := by decide +kernel
theorem dX0_order_34 : decode cX0_order 34 = .ok (.aload_n 0, 1) := by decide +kernel
theorem dX0_order_35 : decode cX0_order 35 = .ok (.getfield 9, 3) := by decide +kernel
theorem dX0_order_38 : decode cX0_order 38 = .ok (.iload_n 2, 1) := by decide +kernel
theorem dX0_order_39 : decode cX0_order 39 = .ok (.aaload, 1) := by decide +kernel
theorem dX0_order_40 : decode cX0_order 40 = .ok (.aload_n 0, 1) := by decide +kernel
theorem dX0_order_41 : decode cX0_order 41 = .ok (.getfield 9, 3) := by decide +kernel
theorem dX0_order_44 : decode cX0_order 44 = .ok (.iload_n 2, 1) := by decide +kernel
theorem dX0_order_45 : decode cX0_order 45 = .ok (.iconst 1, 1) := by decide +kernel
theorem dX0_order_46 : decode cX0_order 46 = .ok (.isub, 1) := by decide +kernel
theorem dX0_order_47 : decode cX0_order 47 = .ok (.aaload, 1) := by decide +kernel
theorem dX0_order_48 : decode cX0_order 48 = .ok (.invokevirtual 67, 3) := by decide +kernel
theorem dX0_order_51 : decode cX0_order 51 = .ok (.ifCond .eq 39, 3) := by decide +kernel
theorem dX0_order_54 : decode cX0_order 54 = .ok (.aload_n 0, 1) := by decide +kernel
theorem dX0_order_55 : decode cX0_order 55 = .ok (.getfield 9, 3) := by decide +kernel
theorem dX0_order_58 : decode cX0_order 58 = .ok (.iload_n 2, 1) := by decide +kernel
theorem dX0_order_59 : decode cX0_order 59 = .ok (.aaload, 1) := by decide +kernel
theorem dX0_order_60 : decode cX0_order 60 = .ok (.astore_n 3, 1) := by decide +kernel
theorem dX0_order_61 : decode cX0_order 61 = .ok (.aload_n 0, 1) := by decide +kernel
theorem dX0_order_62 : decode cX0_order 62 = .ok (.getfield 9, 3) := by decide +kernel
theorem dX0_order_65 : decode cX0_order 65 = .ok (.iload_n 2, 1) := by decide +kernel
theorem dX0_order_66 : decode cX0_order 66 = .ok (.aload_n 0, 1) := by decide +kernel
theorem dX0_order_67 : decode cX0_order 67 = .ok (.getfield 9, 3) := by decide +kernel
theorem dX0_order_70 : decode cX0_order 70 = .ok (.iload_n 2, 1) := by decide +kernel
theorem dX0_order_71 : decode cX0_order 71 = .ok (.iconst 1, 1) := by decide +kernel
theorem dX0_order_72 : decode cX0_order 72 = .ok (.isub, 1) := by decide +kernel
theorem dX0_order_73 : decode cX0_order 73 = .ok (.aaload, 1) := by decide +kernel
theorem dX0_order_74 : decode cX0_order 74 = .ok (.aastore, 1) := by decide +kernel
theorem dX0_order_75 : decode cX0_order 75 = .ok (.aload_n 0, 1) := by decide +kernel
theorem dX0_order_76 : decode cX0_order 76 = .ok (.getfield 9, 3) := by decide +kernel
theorem dX0_order_79 : decode cX0_order 79 = .ok (.iload_n 2, 1) := by decide +kernel
theorem dX0_order_80 : decode cX0_order 80 = .ok (.iconst 1, 1) := by decide +kernel
theorem dX0_order_81 : decode cX0_order 81 = .ok (.isub, 1) := by decide +kernel
theorem dX0_order_82 : decode cX0_order 82 = .ok (.aload_n 3, 1) := by decide +kernel
theorem dX0_order_83 : decode cX0_order 83 = .ok (.aastore, 1) := by decide +kernel
theorem dX0_order_84 : decode cX0_order 84 = .ok (.iinc 2 (-1), 3) := by decide +kernel
theorem dX0_order_87 : decode cX0_order 87 = .ok (.goto (-58), 3) := by decide +kernel
theorem dX0_order_90 : decode cX0_order 90 = .ok (.iinc 1 1, 3) := by decide +kernel
theorem dX0_order_93 : decode cX0_order 93 = .ok (.goto (-83), 3) := by decide +kernel
theorem dX0_order_96 : decode cX0_order 96 = .ok (.return_, 1) := by decide +kernel
theorem dX0_isBefore_0 : decode cX0_isBefore 0 = .ok (.aload_n 1, 1) := by decide +kernel
theorem dX0_isBefore_1 : decode cX0_isBefore 1 = .ok (.ifnull 7, 3) := by decide +kernel
theorem dX0_isBefore_4 : decode cX0_isBefore 4 = .ok (.aload_n 2, 1) := by decide +kernel
theorem dX0_isBefore_5 : decode cX0_isBefore 5 = .ok (.ifnonnull 5, 3) := by decide +kernel
theorem dX0_isBefore_8 : decode cX0_isBefore 8 = .ok (.iconst 0, 1) := by decide +kernel
theorem dX0_isBefore_9 : decode cX0_isBefore 9 = .ok (.ireturn, 1) := by decide +kernel
theorem dX0_isBefore_10 : decode cX0_isBefore 10 = .ok (.aload_n 1, 1) := by decide +kernel
theorem dX0_isBefore_11 : decode cX0_isBefore 11 = .ok (.getfield 66, 3) := by decide +kernel
theorem dX0_isBefore_14 : decode cX0_isBefore 14 = .ok (.aload_n 2, 1) := by decide +kernel
theorem dX0_isBefore_15 : decode cX0_isBefore 15 = .ok (.getfield 66, 3) := by decide +kernel
theorem dX0_isBefore_18 : decode cX0_isBefore 18 = .ok (.if_icmp .eq 20, 3) := by decide +kernel
theorem dX0_isBefore_21 : decode cX0_isBefore 21 = .ok (.aload_n 1, 1) := by decide +kernel
theorem dX0_isBefore_22 : decode cX0_isBefore 22 = .ok (.getfield 66, 3) := by decide +kernel
theorem dX0_isBefore_25 : decode cX0_isBefore 25 = .ok (.aload_n 2, 1) := by decide +kernel
theorem dX0_isBefore_26 : decode cX0_isBefore 26 = .ok (.getfield 66, 3) := by decide +kernel
theorem dX0_isBefore_29 : decode cX0_isBefore 29 = .ok (.if_icmp .ge 7, 3) := by decide +kernel
theorem dX0_isBefore_32 : decode cX0_isBefore 32 = .ok (.iconst 1, 1) := by decide +kernel
theorem dX0_isBefore_33 : decode cX0_isBefore 33 = .ok (.goto 4, 3) := by decide +kernel
theorem dX0_isBefore_36 : decode cX0_isBefore 36 = .ok (.iconst 0, 1) := by decide +kernel
theorem dX0_isBefore_37 : decode cX0_isBefore 37 = .ok (.ireturn, 1) := by decide +kernel
theorem dX0_isBefore_38 : decode cX0_isBefore 38 = .ok (.aload_n 1, 1) := by decide +kernel
theorem dX0_isBefore_39 : decode cX0_isBefore 39 = .ok (.getfield 36, 3) := by decide +kernel
theorem dX0_isBefore_42 : decode cX0_isBefore 42 = .ok (.aload_n 2, 1) := by decide +kernel
theorem dX0_isBefore_43 : decode cX0_isBefore 43 = .ok (.getfield 36, 3) := by decide +kernel
theorem dX0_isBefore_46 : decode cX0_isBefore 46 = .ok (.if_icmp .ge 7, 3) := by decide +kernel
theorem dX0_isBefore_49 : decode cX0_isBefore 49 = .ok (.iconst 1, 1) := by decide +kernel
theorem dX0_isBefore_50 : decode cX0_isBefore 50 = .ok (.goto 4, 3) := by decide +kernel
theorem dX0_isBefore_53 : decode cX0_isBefore 53 = .ok (.iconst 0, 1) := by decide +kernel
theorem dX0_isBefore_54 : decode cX0_isBefore 54 = .ok (.ireturn, 1) := by decide +kernel
theorem dX0_seek_0 : decode cX0_seek 0 = .ok (.iload_n 2, 1) := by decide +kernel
theorem dX0_seek_1 : decode cX0_seek 1 = .ok (.iconst 1, 1) := by decide +kernel
theorem dX0_seek_2 : decode cX0_seek 2 = .ok (.if_icmp .le 6, 3) := by decide +kernel
theorem dX0_seek_5 : decode cX0_seek 5 = .ok (.bipush 40, 2) := by decide +kernel
theorem dX0_seek_7 : decode cX0_seek 7 = .ok (.ireturn, 1) := by decide +kernel
theorem dX0_seek_8 : decode cX0_seek 8 = .ok (.aload_n 0, 1) := by decide +kernel
theorem dX0_seek_9 : decode cX0_seek 9 = .ok (.getfield 29, 3) := by decide +kernel
theorem dX0_seek_12 : decode cX0_seek 12 = .ok (.iload_n 1, 1) := by decide +kernel
theorem dX0_seek_13 : decode cX0_seek 13 = .ok (.if_icmp .lt 8, 3) := by decide +kernel
theorem dX0_seek_16 : decode cX0_seek 16 = .ok (.aload_n 0, 1) := by decide +kernel
theorem dX0_seek_17 : decode cX0_seek 17 = .ok (.getfield 29, 3) := by decide +kernel
theorem dX0_seek_20 : decode cX0_seek 20 = .ok (.ireturn, 1) := by decide +kernel
theorem dX0_seek_21 : decode cX0_seek 21 = .ok (.aload_n 0, 1) := by decide +kernel
theorem dX0_seek_22 : decode cX0_seek 22 = .ok (.getfield 15, 3) := by decide +kernel
theorem dX0_seek_25 : decode cX0_seek 25 = .ok (.tableswitch 85 0 3 #[31, 44, 57, 70], 31) := by decide +kernel
theorem dX0_seek_56 : decode cX0_seek 56 = .ok (.aload_n 0, 1) := by decide +kernel
theorem dX0_seek_57 : decode cX0_seek 57 = .ok (.aload_n 0, 1) := by decide +kernel
theorem dX0_seek_58 : decode cX0_seek 58 = .ok (.iload_n 1, 1) := by decide +kernel
theorem dX0_seek_59 : decode cX0_seek 59 = .ok (.iload_n 2, 1) := by decide +kernel
theorem dX0_seek_60 : decode cX0_seek 60 = .ok (.invokevirtual 71, 3) := by decide +kernel
theorem dX0_seek_63 : decode cX0_seek 63 = .ok (.putfield 29, 3) := by decide +kernel
theorem dX0_seek_66 : decode cX0_seek 66 = .ok (.goto 50, 3) := by decide +kernel
theorem dX0_seek_69 : decode cX0_seek 69 = .ok (.aload_n 0, 1) := by decide +kernel
theorem dX0_seek_70 : decode cX0_seek 70 = .ok (.aload_n 0, 1) := by decide +kernel
theorem dX0_seek_71 : decode cX0_seek 71 = .ok (.iload_n 1, 1) := by decide +kernel
theorem dX0_seek_72 : decode cX0_seek 72 = .ok (.iload_n 2, 1) := by decide +kernel
theorem dX0_seek_73 : decode cX0_seek 73 = .ok (.invokevirtual 74, 3) := by decide +kernel
theorem dX0_seek_76 : decode cX0_seek 76 = .ok (.putfield 29, 3) := by decide +kernel
theorem dX0_seek_79 : decode cX0_seek 79 = .ok (.goto 37, 3) := by decide +kernel
theorem dX0_seek_82 : decode cX0_seek 82 = .ok (.aload_n 0, 1) := by decide +kernel
theorem dX0_seek_83 : decode cX0_seek 83 = .ok (.aload_n 0, 1) := by decide +kernel
theorem dX0_seek_84 : decode cX0_seek 84 = .ok (.iload_n 1, 1) := by decide +kernel
theorem dX0_seek_85 : decode cX0_seek 85 = .ok (.iload_n 2, 1) := by decide +kernel
theorem dX0_seek_86 : decode cX0_seek 86 = .ok (.invokevirtual 77, 3) := by decide +kernel
theorem dX0_seek_89 : decode cX0_seek 89 = .ok (.putfield 29, 3) := by decide +kernel
theorem dX0_seek_92 : decode cX0_seek 92 = .ok (.goto 24, 3) := by decide +kernel
theorem dX0_seek_95 : decode cX0_seek 95 = .ok (.aload_n 0, 1) := by decide +kernel
theorem dX0_seek_96 : decode cX0_seek 96 = .ok (.aload_n 0, 1) := by decide +kernel
theorem dX0_seek_97 : decode cX0_seek 97 = .ok (.getfield 25, 3) := by decide +kernel
theorem dX0_seek_100 : decode cX0_seek 100 = .ok (.iload_n 1, 1) := by decide +kernel
theorem dX0_seek_101 : decode cX0_seek 101 = .ok (.invokestatic 80, 3) := by decide +kernel
theorem dX0_seek_104 : decode cX0_seek 104 = .ok (.putfield 29, 3) := by decide +kernel
theorem dX0_seek_107 : decode cX0_seek 107 = .ok (.goto 9, 3) := by decide +kernel
theorem dX0_seek_110 : decode cX0_seek 110 = .ok (.aload_n 0, 1) := by decide +kernel
theorem dX0_seek_111 : decode cX0_seek 111 = .ok (.bipush 40, 2) := by decide +kernel
theorem dX0_seek_113 : decode cX0_seek 113 = .ok (.putfield 29, 3) := by decide +kernel
theorem dX0_seek_116 : decode cX0_seek 116 = .ok (.aload_n 0, 1) := by decide +kernel
theorem dX0_seek_117 : decode cX0_seek 117 = .ok (.getfield 29, 3) := by decide +kernel
theorem dX0_seek_120 : decode cX0_seek 120 = .ok (.ireturn, 1) := by decide +kernel
theorem dX0_seekAll_0 : decode cX0_seekAll 0 = .ok (.iload_n 1, 1) := by decide +kernel
theorem dX0_seekAll_1 : decode cX0_seekAll 1 = .ok (.istore_n 3, 1) := by decide +kernel
theorem dX0_seekAll_2 : decode cX0_seekAll 2 = .ok (.iconst 0, 1) := by decide +kernel
theorem dX0_seekAll_3 : decode cX0_seekAll 3 = .ok (.istore 4, 2) := by decide +kernel
theorem dX0_seekAll_5 : decode cX0_seekAll 5 = .ok (.iconst 0, 1) := by decide +kernel
theorem dX0_seekAll_6 : decode cX0_seekAll 6 = .ok (.istore 5, 2) := by decide +kernel
theorem dX0_seekAll_8 : decode cX0_seekAll 8 = .ok (.iload 4, 2) := by decide +kernel
theorem dX0_seekAll_10 : decode cX0_seekAll 10 = .ok (.aload_n 0, 1) := by decide +kernel
theorem dX0_seekAll_11 : decode cX0_seekAll 11 = .ok (.getfield 22, 3) := by decide +kernel
theorem dX0_seekAll_14 : decode cX0_seekAll 14 = .ok (.if_icmp .ge 74, 3) := by decide +kernel
theorem dX0_seekAll_17 : decode cX0_seekAll 17 = .ok (.iload 5, 2) := by decide +kernel
theorem dX0_seekAll_19 : decode cX0_seekAll 19 = .ok (.sipush 1000, 3) := by decide +kernel
theorem dX0_seekAll_22 : decode cX0_seekAll 22 = .ok (.if_icmp .ge 66, 3) := by decide +kernel
theorem dX0_seekAll_25 : decode cX0_seekAll 25 = .ok (.aload_n 0, 1) := by decide +kernel
theorem dX0_seekAll_26 : decode cX0_seekAll 26 = .ok (.iload 4, 2) := by decide +kernel
theorem dX0_seekAll_28 : decode cX0_seekAll 28 = .ok (.invokevirtual 32, 3) := by decide +kernel
theorem dX0_seekAll_31 : decode cX0_seekAll 31 = .ok (.astore 6, 2) := by decide +kernel
theorem dX0_seekAll_33 : decode cX0_seekAll 33 = .ok (.aload 6, 2) := by decide +kernel
theorem dX0_seekAll_35 : decode cX0_seekAll 35 = .ok (.ifnonnull 8, 3) := by decide +kernel
theorem dX0_seekAll_38 : decode cX0_seekAll 38 = .ok (.bipush 40, 2) := by decide +kernel
theorem dX0_seekAll_40 : decode cX0_seekAll 40 = .ok (.goto 12, 3) := by decide +kernel
theorem dX0_seekAll_43 : decode cX0_seekAll 43 = .ok (.aload 6, 2) := by decide +kernel
theorem dX0_seekAll_45 : decode cX0_seekAll 45 = .ok (.iload_n 3, 1) := by decide +kernel
theorem dX0_seekAll_46 : decode cX0_seekAll 46 = .ok (.iload_n 2, 1) := by decide +kernel
theorem dX0_seekAll_47 : decode cX0_seekAll 47 = .ok (.iconst 1, 1) := by decide +kernel
theorem dX0_seekAll_48 : decode cX0_seekAll 48 = .ok (.iadd, 1) := by decide +kernel
theorem dX0_seekAll_49 : decode cX0_seekAll 49 = .ok (.invokevirtual 84, 3) := by decide +kernel
theorem dX0_seekAll_52 : decode cX0_seekAll 52 = .ok (.istore 7, 2) := by decide +kernel
theorem dX0_seekAll_54 : decode cX0_seekAll 54 = .ok (.iload 7, 2) := by decide +kernel
theorem dX0_seekAll_56 : decode cX0_seekAll 56 = .ok (.bipush 40, 2) := by decide +kernel
theorem dX0_seekAll_58 : decode cX0_seekAll 58 = .ok (.if_icmp .lt 6, 3) := by decide +kernel
theorem dX0_seekAll_61 : decode cX0_seekAll 61 = .ok (.bipush 40, 2) := by decide +kernel
theorem dX0_seekAll_63 : decode cX0_seekAll 63 = .ok (.ireturn, 1) := by decide +kernel
theorem dX0_seekAll_64 : decode cX0_seekAll 64 = .ok (.iload 7, 2) := by decide +kernel
theorem dX0_seekAll_66 : decode cX0_seekAll 66 = .ok (.iload_n 3, 1) := by decide +kernel
theorem dX0_seekAll_67 : decode cX0_seekAll 67 = .ok (.if_icmp .le 12, 3) := by decide +kernel
theorem dX0_seekAll_70 : decode cX0_seekAll 70 = .ok (.iload 7, 2) := by decide +kernel
theorem dX0_seekAll_72 : decode cX0_seekAll 72 = .ok (.istore_n 3, 1) := by decide +kernel
theorem dX0_seekAll_73 : decode cX0_seekAll 73 = .ok (.iconst 0, 1) := by decide +kernel
theorem dX0_seekAll_74 : decode cX0_seekAll 74 = .ok (.istore 4, 2) := by decide +kernel
theorem dX0_seekAll_76 : decode cX0_seekAll 76 = .ok (.goto 6, 3) := by decide +kernel
theorem dX0_seekAll_79 : decode cX0_seekAll 79 = .ok (.iinc 4 1, 3) := by decide +kernel
theorem dX0_seekAll_82 : decode cX0_seekAll 82 = .ok (.iinc 5 1, 3) := by decide +kernel
theorem dX0_seekAll_85 : decode cX0_seekAll 85 = .ok (.goto (-77), 3) := by decide +kernel
theorem dX0_seekAll_88 : decode cX0_seekAll 88 = .ok (.iload_n 3, 1) := by decide +kernel
theorem dX0_seekAll_89 : decode cX0_seekAll 89 = .ok (.ireturn, 1) := by decide +kernel
theorem dX0_seekAny_0 : decode cX0_seekAny 0 = .ok (.bipush 40, 2) := by decide +kernel
theorem dX0_seekAny_2 : decode cX0_seekAny 2 = .ok (.istore_n 3, 1) := by decide +kernel
theorem dX0_seekAny_3 : decode cX0_seekAny 3 = .ok (.iconst 0, 1) := by decide +kernel
theorem dX0_seekAny_4 : decode cX0_seekAny 4 = .ok (.istore 4, 2) := by decide +kernel
theorem dX0_seekAny_6 : decode cX0_seekAny 6 = .ok (.iload 4, 2) := by decide +kernel
theorem dX0_seekAny_8 : decode cX0_seekAny 8 = .ok (.aload_n 0, 1) := by decide +kernel
theorem dX0_seekAny_9 : decode cX0_seekAny 9 = .ok (.getfield 22, 3) := by decide +kernel
theorem dX0_seekAny_12 : decode cX0_seekAny 12 = .ok (.if_icmp .ge 36, 3) := by decide +kernel
theorem dX0_seekAny_15 : decode cX0_seekAny 15 = .ok (.aload_n 0, 1) := by decide +kernel
theorem dX0_seekAny_16 : decode cX0_seekAny 16 = .ok (.iload 4, 2) := by decide +kernel
theorem dX0_seekAny_18 : decode cX0_seekAny 18 = .ok (.invokevirtual 32, 3) := by decide +kernel
theorem dX0_seekAny_21 : decode cX0_seekAny 21 = .ok (.astore 5, 2) := by decide +kernel
theorem dX0_seekAny_23 : decode cX0_seekAny 23 = .ok (.aload 5, 2) := by decide +kernel
theorem dX0_seekAny_25 : decode cX0_seekAny 25 = .ok (.ifnull 17, 3) := by decide +kernel
theorem dX0_seekAny_28 : decode cX0_seekAny 28 = .ok (.iload_n 3, 1) := by decide +kernel
theorem dX0_seekAny_29 : decode cX0_seekAny 29 = .ok (.aload 5, 2) := by decide +kernel
theorem dX0_seekAny_31 : decode cX0_seekAny 31 = .ok (.iload_n 1, 1) := by decide +kernel
theorem dX0_seekAny_32 : decode cX0_seekAny 32 = .ok (.iload_n 2, 1) := by decide +kernel
theorem dX0_seekAny_33 : decode cX0_seekAny 33 = .ok (.iconst 1, 1) := by decide +kernel
theorem dX0_seekAny_34 : decode cX0_seekAny 34 = .ok (.iadd, 1) := by decide +kernel
theorem dX0_seekAny_35 : decode cX0_seekAny 35 = .ok (.invokevirtual 84, 3) := by decide +kernel
theorem dX0_seekAny_38 : decode cX0_seekAny 38 = .ok (.invokestatic 60, 3) := by decide +kernel
theorem dX0_seekAny_41 : decode cX0_seekAny 41 = .ok (.istore_n 3, 1) := by decide +kernel
theorem dX0_seekAny_42 : decode cX0_seekAny 42 = .ok (.iinc 4 1, 3) := by decide +kernel
theorem dX0_seekAny_45 : decode cX0_seekAny 45 = .ok (.goto (-39), 3) := by decide +kernel
theorem dX0_seekAny_48 : decode cX0_seekAny 48 = .ok (.iload_n 3, 1) := by decide +kernel
theorem dX0_seekAny_49 : decode cX0_seekAny 49 = .ok (.ireturn, 1) := by decide +kernel
theorem dX0_seekSome_0 : decode cX0_seekSome 0 = .ok (.iload_n 1, 1) := by decide +kernel
theorem dX0_seekSome_1 : decode cX0_seekSome 1 = .ok (.istore_n 3, 1) := by decide +kernel
theorem dX0_seekSome_2 : decode cX0_seekSome 2 = .ok (.iconst 0, 1) := by decide +kernel
theorem dX0_seekSome_3 : decode cX0_seekSome 3 = .ok (.istore 4, 2) := by decide +kernel
theorem dX0_seekSome_5 : decode cX0_seekSome 5 = .ok (.iload 4, 2) := by decide +kernel
theorem dX0_seekSome_7 : decode cX0_seekSome 7 = .ok (.bipush 40, 2) := by decide +kernel
theorem dX0_seekSome_9 : decode cX0_seekSome 9 = .ok (.if_icmp .ge 39, 3) := by decide +kernel
theorem dX0_seekSome_12 : decode cX0_seekSome 12 = .ok (.iload_n 3, 1) := by decide +kernel
theorem dX0_seekSome_13 : decode cX0_seekSome 13 = .ok (.bipush 40, 2) := by decide +kernel
theorem dX0_seekSome_15 : decode cX0_seekSome 15 = .ok (.if_icmp .ge 33, 3) := by decide +kernel
theorem dX0_seekSome_18 : decode cX0_seekSome 18 = .ok (.aload_n 0, 1) := by decide +kernel
theorem dX0_seekSome_19 : decode cX0_seekSome 19 = .ok (.iload_n 3, 1) := by decide +kernel
theorem dX0_seekSome_20 : decode cX0_seekSome 20 = .ok (.iload_n 2, 1) := by decide +kernel
theorem dX0_seekSome_21 : decode cX0_seekSome 21 = .ok (.invokevirtual 74, 3) := by decide +kernel
theorem dX0_seekSome_24 : decode cX0_seekSome 24 = .ok (.pop, 1) := by decide +kernel
theorem dX0_seekSome_25 : decode cX0_seekSome 25 = .ok (.aload_n 0, 1) := by decide +kernel
theorem dX0_seekSome_26 : decode cX0_seekSome 26 = .ok (.invokevirtual 87, 3) := by decide +kernel
theorem dX0_seekSome_29 : decode cX0_seekSome 29 = .ok (.istore 5, 2) := by decide +kernel
theorem dX0_seekSome_31 : decode cX0_seekSome 31 = .ok (.iload 5, 2) := by decide +kernel
theorem dX0_seekSome_33 : decode cX0_seekSome 33 = .ok (.iload_n 3, 1) := by decide +kernel
theorem dX0_seekSome_34 : decode cX0_seekSome 34 = .ok (.if_icmp .gt 5, 3) := by decide +kernel
theorem dX0_seekSome_37 : decode cX0_seekSome 37 = .ok (.iload_n 3, 1) := by decide +kernel
theorem dX0_seekSome_38 : decode cX0_seekSome 38 = .ok (.ireturn, 1) := by decide +kernel
theorem dX0_seekSome_39 : decode cX0_seekSome 39 = .ok (.iload 5, 2) := by decide +kernel
theorem dX0_seekSome_41 : decode cX0_seekSome 41 = .ok (.istore_n 3, 1) := by decide +kernel
theorem dX0_seekSome_42 : decode cX0_seekSome 42 = .ok (.iinc 4 1, 3) := by decide +kernel
theorem dX0_seekSome_45 : decode cX0_seekSome 45 = .ok (.goto (-40), 3) := by decide +kernel
theorem dX0_seekSome_48 : decode cX0_seekSome 48 = .ok (.bipush 40, 2) := by decide +kernel
theorem dX0_seekSome_50 : decode cX0_seekSome 50 = .ok (.ireturn, 1) := by decide +kernel
theorem dX0_neededPlace_0 : decode cX0_neededPlace 0 = .ok (.bipush 40, 2) := by decide +kernel
theorem dX0_neededPlace_2 : decode cX0_neededPlace 2 = .ok (.istore_n 1, 1) := by decide +kernel
theorem dX0_neededPlace_3 : decode cX0_neededPlace 3 = .ok (.iconst 0, 1) := by decide +kernel
theorem dX0_neededPlace_4 : decode cX0_neededPlace 4 = .ok (.istore_n 2, 1) := by decide +kernel
theorem dX0_neededPlace_5 : decode cX0_neededPlace 5 = .ok (.iload_n 2, 1) := by decide +kernel
theorem dX0_neededPlace_6 : decode cX0_neededPlace 6 = .ok (.aload_n 0, 1) := by decide +kernel
theorem dX0_neededPlace_7 : decode cX0_neededPlace 7 = .ok (.getfield 22, 3) := by decide +kernel
theorem dX0_neededPlace_10 : decode cX0_neededPlace 10 = .ok (.if_icmp .ge 47, 3) := by decide +kernel
theorem dX0_neededPlace_13 : decode cX0_neededPlace 13 = .ok (.aload_n 0, 1) := by decide +kernel
theorem dX0_neededPlace_14 : decode cX0_neededPlace 14 = .ok (.iload_n 2, 1) := by decide +kernel
theorem dX0_neededPlace_15 : decode cX0_neededPlace 15 = .ok (.invokevirtual 32, 3) := by decide +kernel
theorem dX0_neededPlace_18 : decode cX0_neededPlace 18 = .ok (.astore_n 3, 1) := by decide +kernel
theorem dX0_neededPlace_19 : decode cX0_neededPlace 19 = .ok (.aload_n 3, 1) := by decide +kernel
theorem dX0_neededPlace_20 : decode cX0_neededPlace 20 = .ok (.ifnull 31, 3) := by decide +kernel
theorem dX0_neededPlace_23 : decode cX0_neededPlace 23 = .ok (.aload_n 3, 1) := by decide +kernel
theorem dX0_neededPlace_24 : decode cX0_neededPlace 24 = .ok (.getfield 90, 3) := by decide +kernel
theorem dX0_neededPlace_27 : decode cX0_neededPlace 27 = .ok (.iload_n 1, 1) := by decide +kernel
theorem dX0_neededPlace_28 : decode cX0_neededPlace 28 = .ok (.if_icmp .ge 23, 3) := by decide +kernel
theorem dX0_neededPlace_31 : decode cX0_neededPlace 31 = .ok (.aload_n 0, 1) := by decide +kernel
theorem dX0_neededPlace_32 : decode cX0_neededPlace 32 = .ok (.aload_n 3, 1) := by decide +kernel
theorem dX0_neededPlace_33 : decode cX0_neededPlace 33 = .ok (.getfield 90, 3) := by decide +kernel
theorem dX0_neededPlace_36 : decode cX0_neededPlace 36 = .ok (.invokevirtual 91, 3) := by decide +kernel
theorem dX0_neededPlace_39 : decode cX0_neededPlace 39 = .ok (.aload_n 0, 1) := by decide +kernel
theorem dX0_neededPlace_40 : decode cX0_neededPlace 40 = .ok (.getfield 19, 3) := by decide +kernel
theorem dX0_neededPlace_43 : decode cX0_neededPlace 43 = .ok (.if_icmp .lt 8, 3) := by decide +kernel
theorem dX0_neededPlace_46 : decode cX0_neededPlace 46 = .ok (.aload_n 3, 1) := by decide +kernel
theorem dX0_neededPlace_47 : decode cX0_neededPlace 47 = .ok (.getfield 90, 3) := by decide +kernel
theorem dX0_neededPlace_50 : decode cX0_neededPlace 50 = .ok (.istore_n 1, 1) := by decide +kernel
theorem dX0_neededPlace_51 : decode cX0_neededPlace 51 = .ok (.iinc 2 1, 3) := by decide +kernel
theorem dX0_neededPlace_54 : decode cX0_neededPlace 54 = .ok (.goto (-49), 3) := by decide +kernel
theorem dX0_neededPlace_57 : decode cX0_neededPlace 57 = .ok (.iload_n 1, 1) := by decide +kernel
theorem dX0_neededPlace_58 : decode cX0_neededPlace 58 = .ok (.ireturn, 1) := by decide +kernel
theorem dX0_placesUpTo_0 : decode cX0_placesUpTo 0 = .ok (.iconst 0, 1) := by decide +kernel
theorem dX0_placesUpTo_1 : decode cX0_placesUpTo 1 = .ok (.istore_n 2, 1) := by decide +kernel
theorem dX0_placesUpTo_2 : decode cX0_placesUpTo 2 = .ok (.iconst 0, 1) := by decide +kernel
theorem dX0_placesUpTo_3 : decode cX0_placesUpTo 3 = .ok (.istore_n 3, 1) := by decide +kernel
theorem dX0_placesUpTo_4 : decode cX0_placesUpTo 4 = .ok (.iload_n 3, 1) := by decide +kernel
theorem dX0_placesUpTo_5 : decode cX0_placesUpTo 5 = .ok (.aload_n 0, 1) := by decide +kernel
theorem dX0_placesUpTo_6 : decode cX0_placesUpTo 6 = .ok (.getfield 22, 3) := by decide +kernel
theorem dX0_placesUpTo_9 : decode cX0_placesUpTo 9 = .ok (.if_icmp .ge 33, 3) := by decide +kernel
theorem dX0_placesUpTo_12 : decode cX0_placesUpTo 12 = .ok (.aload_n 0, 1) := by decide +kernel
theorem dX0_placesUpTo_13 : decode cX0_placesUpTo 13 = .ok (.iload_n 3, 1) := by decide +kernel
theorem dX0_placesUpTo_14 : decode cX0_placesUpTo 14 = .ok (.invokevirtual 32, 3) := by decide +kernel
theorem dX0_placesUpTo_17 : decode cX0_placesUpTo 17 = .ok (.astore 4, 2) := by decide +kernel
theorem dX0_placesUpTo_19 : decode cX0_placesUpTo 19 = .ok (.aload 4, 2) := by decide +kernel
theorem dX0_placesUpTo_21 : decode cX0_placesUpTo 21 = .ok (.ifnull 15, 3) := by decide +kernel
theorem dX0_placesUpTo_24 : decode cX0_placesUpTo 24 = .ok (.aload 4, 2) := by decide +kernel
theorem dX0_placesUpTo_26 : decode cX0_placesUpTo 26 = .ok (.getfield 90, 3) := by decide +kernel
theorem dX0_placesUpTo_29 : decode cX0_placesUpTo 29 = .ok (.iload_n 1, 1) := by decide +kernel
theorem dX0_placesUpTo_30 : decode cX0_placesUpTo 30 = .ok (.if_icmp .gt 6, 3) := by decide +kernel
theorem dX0_placesUpTo_33 : decode cX0_placesUpTo 33 = .ok (.iinc 2 1, 3) := by decide +kernel
theorem dX0_placesUpTo_36 : decode cX0_placesUpTo 36 = .ok (.iinc 3 1, 3) := by decide +kernel
theorem dX0_placesUpTo_39 : decode cX0_placesUpTo 39 = .ok (.goto (-35), 3) := by decide +kernel
theorem dX0_placesUpTo_42 : decode cX0_placesUpTo 42 = .ok (.iload_n 2, 1) := by decide +kernel
theorem dX0_placesUpTo_43 : decode cX0_placesUpTo 43 = .ok (.ireturn, 1) := by decide +kernel
theorem dX1_init_0 : decode cX1_init 0 = .ok (.aload_n 0, 1) := by decide +kernel
theorem dX1_init_1 : decode cX1_init 1 = .ok (.invokespecial 1, 3) := by decide +kernel
theorem dX1_init_4 : decode cX1_init 4 = .ok (.return_, 1) := by decide +kernel
theorem dX2_init_0 : decode cX2_init 0 = .ok (.aload_n 0, 1) := by decide +kernel
theorem dX2_init_1 : decode cX2_init 1 = .ok (.invokespecial 3, 3) := by decide +kernel
theorem dX2_init_4 : decode cX2_init 4 = .ok (.aload_n 0, 1) := by decide +kernel
theorem dX2_init_5 : decode cX2_init 5 = .ok (.iconst 5, 1) := by decide +kernel
theorem dX2_init_6 : decode cX2_init 6 = .ok (.anewarray 9, 3) := by decide +kernel
theorem dX2_init_9 : decode cX2_init 9 = .ok (.putfield 11, 3) := by decide +kernel
theorem dX2_init_12 : decode cX2_init 12 = .ok (.iconst 0, 1) := by decide +kernel
theorem dX2_init_13 : decode cX2_init 13 = .ok (.istore_n 2, 1) := by decide +kernel
theorem dX2_init_14 : decode cX2_init 14 = .ok (.iload_n 2, 1) := by decide +kernel
theorem dX2_init_15 : decode cX2_init 15 = .ok (.aload_n 0, 1) := by decide +kernel
theorem dX2_init_16 : decode cX2_init 16 = .ok (.getfield 11, 3) := by decide +kernel
theorem dX2_init_19 : decode cX2_init 19 = .ok (.arraylength, 1) := by decide +kernel
theorem dX2_init_20 : decode cX2_init 20 = .ok (.if_icmp .ge 24, 3) := by decide +kernel
theorem dX2_init_23 : decode cX2_init 23 = .ok (.aload_n 0, 1) := by decide +kernel
theorem dX2_init_24 : decode cX2_init 24 = .ok (.getfield 11, 3) := by decide +kernel
theorem dX2_init_27 : decode cX2_init 27 = .ok (.iload_n 2, 1) := by decide +kernel
theorem dX2_init_28 : decode cX2_init 28 = .ok (.new 9, 3) := by decide +kernel
theorem dX2_init_31 : decode cX2_init 31 = .ok (.dup, 1) := by decide +kernel
theorem dX2_init_32 : decode cX2_init 32 = .ok (.iload_n 2, 1) := by decide +kernel
theorem dX2_init_33 : decode cX2_init 33 = .ok (.aload_n 1, 1) := by decide +kernel
theorem dX2_init_34 : decode cX2_init 34 = .ok (.invokespecial 17, 3) := by decide +kernel
theorem dX2_init_37 : decode cX2_init 37 = .ok (.aastore, 1) := by decide +kernel
theorem dX2_init_38 : decode cX2_init 38 = .ok (.iinc 2 1, 3) := by decide +kernel
theorem dX2_init_41 : decode cX2_init 41 = .ok (.goto (-27), 3) := by decide +kernel
theorem dX2_init_44 : decode cX2_init 44 = .ok (.return_, 1) := by decide +kernel
theorem dX2_make_0 : decode cX2_make 0 = .ok (.aload_n 2, 1) := by decide +kernel
theorem dX2_make_1 : decode cX2_make 1 = .ok (.invokevirtual 20, 3) := by decide +kernel
theorem dX2_make_4 : decode cX2_make 4 = .ok (.lstore_n 3, 1) := by decide +kernel
theorem dX2_make_5 : decode cX2_make 5 = .ok (.aload_n 0, 1) := by decide +kernel
theorem dX2_make_6 : decode cX2_make 6 = .ok (.aload_n 1, 1) := by decide +kernel
theorem dX2_make_7 : decode cX2_make 7 = .ok (.getfield 26, 3) := by decide +kernel
theorem dX2_make_10 : decode cX2_make 10 = .ok (.aload_n 1, 1) := by decide +kernel
theorem dX2_make_11 : decode cX2_make 11 = .ok (.getfield 32, 3) := by decide +kernel
theorem dX2_make_14 : decode cX2_make 14 = .ok (.lload_n 3, 1) := by decide +kernel
theorem dX2_make_15 : decode cX2_make 15 = .ok (.invokevirtual 35, 3) := by decide +kernel
theorem dX2_make_18 : decode cX2_make 18 = .ok (.iconst 0, 1) := by decide +kernel
theorem dX2_make_19 : decode cX2_make 19 = .ok (.istore 5, 2) := by decide +kernel
theorem dX2_make_21 : decode cX2_make 21 = .ok (.iload 5, 2) := by decide +kernel
theorem dX2_make_23 : decode cX2_make 23 = .ok (.aload_n 0, 1) := by decide +kernel
theorem dX2_make_24 : decode cX2_make 24 = .ok (.getfield 11, 3) := by decide +kernel
theorem dX2_make_27 : decode cX2_make 27 = .ok (.arraylength, 1) := by decide +kernel
theorem dX2_make_28 : decode cX2_make 28 = .ok (.if_icmp .ge 64, 3) := by decide +kernel
theorem dX2_make_31 : decode cX2_make 31 = .ok (.aload_n 0, 1) := by decide +kernel
theorem dX2_make_32 : decode cX2_make 32 = .ok (.invokevirtual 39, 3) := by decide +kernel
theorem dX2_make_35 : decode cX2_make 35 = .ok (.ifCond .ne 57, 3) := by decide +kernel
theorem dX2_make_38 : decode cX2_make 38 = .ok (.aload_n 1, 1) := by decide +kernel
theorem dX2_make_39 : decode cX2_make 39 = .ok (.iload 5, 2) := by decide +kernel
theorem dX2_make_41 : decode cX2_make 41 = .ok (.invokevirtual 43, 3) := by decide +kernel
theorem dX2_make_44 : decode cX2_make 44 = .ok (.astore 6, 2) := by decide +kernel
theorem dX2_make_46 : decode cX2_make 46 = .ok (.aload 6, 2) := by decide +kernel
theorem dX2_make_48 : decode cX2_make 48 = .ok (.ifnull 38, 3) := by decide +kernel
theorem dX2_make_51 : decode cX2_make 51 = .ok (.aload_n 0, 1) := by decide +kernel
theorem dX2_make_52 : decode cX2_make 52 = .ok (.getfield 11, 3) := by decide +kernel
theorem dX2_make_55 : decode cX2_make 55 = .ok (.iload 5, 2) := by decide +kernel
theorem dX2_make_57 : decode cX2_make 57 = .ok (.aaload, 1) := by decide +kernel
theorem dX2_make_58 : decode cX2_make 58 = .ok (.ifnull 28, 3) := by decide +kernel
theorem dX2_make_61 : decode cX2_make 61 = .ok (.aload_n 0, 1) := by decide +kernel
theorem dX2_make_62 : decode cX2_make 62 = .ok (.getfield 11, 3) := by decide +kernel
theorem dX2_make_65 : decode cX2_make 65 = .ok (.iload 5, 2) := by decide +kernel
theorem dX2_make_67 : decode cX2_make 67 = .ok (.aaload, 1) := by decide +kernel
theorem dX2_make_68 : decode cX2_make 68 = .ok (.aload 6, 2) := by decide +kernel
theorem dX2_make_70 : decode cX2_make 70 = .ok (.aload_n 2, 1) := by decide +kernel
theorem dX2_make_71 : decode cX2_make 71 = .ok (.lload_n 3, 1) := by decide +kernel
theorem dX2_make_72 : decode cX2_make 72 = .ok (.invokevirtual 47, 3) := by decide +kernel
theorem dX2_make_75 : decode cX2_make 75 = .ok (.aload_n 0, 1) := by decide +kernel
theorem dX2_make_76 : decode cX2_make 76 = .ok (.aload_n 0, 1) := by decide +kernel
theorem dX2_make_77 : decode cX2_make 77 = .ok (.getfield 11, 3) := by decide +kernel
theorem dX2_make_80 : decode cX2_make 80 = .ok (.iload 5, 2) := by decide +kernel
theorem dX2_make_82 : decode cX2_make 82 = .ok (.aaload, 1) := by decide +kernel
theorem dX2_make_83 : decode cX2_make 83 = .ok (.invokevirtual 51, 3) := by decide +kernel
theorem dX2_make_86 : decode cX2_make 86 = .ok (.iinc 5 1, 3) := by decide +kernel
theorem dX2_make_89 : decode cX2_make 89 = .ok (.goto (-68), 3) := by decide +kernel
theorem dX2_make_92 : decode cX2_make 92 = .ok (.aload_n 0, 1) := by decide +kernel
theorem dX2_make_93 : decode cX2_make 93 = .ok (.aload_n 0, 1) := by decide +kernel
theorem dX2_make_94 : decode cX2_make 94 = .ok (.getfield 55, 3) := by decide +kernel
theorem dX2_make_97 : decode cX2_make 97 = .ok (.invokevirtual 58, 3) := by decide +kernel
theorem dX2_make_100 : decode cX2_make 100 = .ok (.aload_n 0, 1) := by decide +kernel
theorem dX2_make_101 : decode cX2_make 101 = .ok (.invokevirtual 62, 3) := by decide +kernel
theorem dX2_make_104 : decode cX2_make 104 = .ok (.aload_n 0, 1) := by decide +kernel
theorem dX2_make_105 : decode cX2_make 105 = .ok (.invokevirtual 65, 3) := by decide +kernel
theorem dX2_make_108 : decode cX2_make 108 = .ok (.aload_n 0, 1) := by decide +kernel
theorem dX2_make_109 : decode cX2_make 109 = .ok (.invokevirtual 68, 3) := by decide +kernel
theorem dX2_make_112 : decode cX2_make 112 = .ok (.return_, 1) := by decide +kernel
theorem dX2_takeIn_0 : decode cX2_takeIn 0 = .ok (.aload_n 1, 1) := by decide +kernel
theorem dX2_takeIn_1 : decode cX2_takeIn 1 = .ok (.invokevirtual 71, 3) := by decide +kernel
theorem dX2_takeIn_4 : decode cX2_takeIn 4 = .ok (.ifCond .ne 11, 3) := by decide +kernel
theorem dX2_takeIn_7 : decode cX2_takeIn 7 = .ok (.aload_n 0, 1) := by decide +kernel
theorem dX2_takeIn_8 : decode cX2_takeIn 8 = .ok (.aload_n 1, 1) := by decide +kernel
theorem dX2_takeIn_9 : decode cX2_takeIn 9 = .ok (.invokevirtual 72, 3) := by decide +kernel
theorem dX2_takeIn_12 : decode cX2_takeIn 12 = .ok (.goto 76, 3) := by decide +kernel
theorem dX2_takeIn_15 : decode cX2_takeIn 15 = .ok (.aload_n 1, 1) := by decide +kernel
theorem dX2_takeIn_16 : decode cX2_takeIn 16 = .ok (.getfield 76, 3) := by decide +kernel
theorem dX2_takeIn_19 : decode cX2_takeIn 19 = .ok (.iconst 3, 1) := by decide +kernel
theorem dX2_takeIn_20 : decode cX2_takeIn 20 = .ok (.if_icmp .ne 24, 3) := by decide +kernel
theorem dX2_takeIn_23 : decode cX2_takeIn 23 = .ok (.aload_n 0, 1) := by decide +kernel
theorem dX2_takeIn_24 : decode cX2_takeIn 24 = .ok (.getfield 77, 3) := by decide +kernel
theorem dX2_takeIn_27 : decode cX2_takeIn 27 = .ok (.iconst 2, 1) := by decide +kernel
theorem dX2_takeIn_28 : decode cX2_takeIn 28 = .ok (.if_icmp .ne 16, 3) := by decide +kernel
theorem dX2_takeIn_31 : decode cX2_takeIn 31 = .ok (.aload_n 0, 1) := by decide +kernel
theorem dX2_takeIn_32 : decode cX2_takeIn 32 = .ok (.dup, 1) := by decide +kernel
theorem dX2_takeIn_33 : decode cX2_takeIn 33 = .ok (.getfield 78, 3) := by decide +kernel
theorem dX2_takeIn_36 : decode cX2_takeIn 36 = .ok (.iconst 1, 1) := by decide +kernel
theorem dX2_takeIn_37 : decode cX2_takeIn 37 = .ok (.isub, 1) := by decide +kernel
theorem dX2_takeIn_38 : decode cX2_takeIn 38 = .ok (.putfield 78, 3) := by decide +kernel
theorem dX2_takeIn_41 : decode cX2_takeIn 41 = .ok (.goto 47, 3) := by decide +kernel
theorem dX2_takeIn_44 : decode cX2_takeIn 44 = .ok (.aload_n 1, 1) := by decide +kernel
theorem dX2_takeIn_45 : decode cX2_takeIn 45 = .ok (.getfield 76, 3) := by decide +kernel
theorem dX2_takeIn_48 : decode cX2_takeIn 48 = .ok (.iconst 3, 1) := by decide +kernel
theorem dX2_takeIn_49 : decode cX2_takeIn 49 = .ok (.if_icmp .ne 19, 3) := by decide +kernel
theorem dX2_takeIn_52 : decode cX2_takeIn 52 = .ok (.aload_n 0, 1) := by decide +kernel
theorem dX2_takeIn_53 : decode cX2_takeIn 53 = .ok (.getfield 77, 3) := by decide +kernel
theorem dX2_takeIn_56 : decode cX2_takeIn 56 = .ok (.iconst 1, 1) := by decide +kernel
theorem dX2_takeIn_57 : decode cX2_takeIn 57 = .ok (.if_icmp .ne 11, 3) := by decide +kernel
theorem dX2_takeIn_60 : decode cX2_takeIn 60 = .ok (.aload_n 0, 1) := by decide +kernel
theorem dX2_takeIn_61 : decode cX2_takeIn 61 = .ok (.iconst 3, 1) := by decide +kernel
theorem dX2_takeIn_62 : decode cX2_takeIn 62 = .ok (.invokevirtual 79, 3) := by decide +kernel
theorem dX2_takeIn_65 : decode cX2_takeIn 65 = .ok (.goto 23, 3) := by decide +kernel
theorem dX2_takeIn_68 : decode cX2_takeIn 68 = .ok (.aload_n 1, 1) := by decide +kernel
theorem dX2_takeIn_69 : decode cX2_takeIn 69 = .ok (.getfield 76, 3) := by decide +kernel
theorem dX2_takeIn_72 : decode cX2_takeIn 72 = .ok (.iconst 4, 1) := by decide +kernel
theorem dX2_takeIn_73 : decode cX2_takeIn 73 = .ok (.if_icmp .ne 15, 3) := by decide +kernel
theorem dX2_takeIn_76 : decode cX2_takeIn 76 = .ok (.aload_n 0, 1) := by decide +kernel
theorem dX2_takeIn_77 : decode cX2_takeIn 77 = .ok (.getfield 77, 3) := by decide +kernel
theorem dX2_takeIn_80 : decode cX2_takeIn 80 = .ok (.ifCond .ne 8, 3) := by decide +kernel
theorem dX2_takeIn_83 : decode cX2_takeIn 83 = .ok (.aload_n 0, 1) := by decide +kernel
theorem dX2_takeIn_84 : decode cX2_takeIn 84 = .ok (.iconst 4, 1) := by decide +kernel
theorem dX2_takeIn_85 : decode cX2_takeIn 85 = .ok (.invokevirtual 79, 3) := by decide +kernel
theorem dX2_takeIn_88 : decode cX2_takeIn 88 = .ok (.return_, 1) := by decide +kernel
theorem dX2_plannedAt_0 : decode cX2_plannedAt 0 = .ok (.aload_n 0, 1) := by decide +kernel
theorem dX2_plannedAt_1 : decode cX2_plannedAt 1 = .ok (.iload_n 1, 1) := by decide +kernel
theorem dX2_plannedAt_2 : decode cX2_plannedAt 2 = .ok (.invokevirtual 82, 3) := by decide +kernel
theorem dX2_plannedAt_5 : decode cX2_plannedAt 5 = .ok (.astore_n 2, 1) := by decide +kernel
theorem dX2_plannedAt_6 : decode cX2_plannedAt 6 = .ok (.aload_n 2, 1) := by decide +kernel
theorem dX2_plannedAt_7 : decode cX2_plannedAt 7 = .ok (.ifnull 22, 3) := by decide +kernel
theorem dX2_plannedAt_10 : decode cX2_plannedAt 10 = .ok (.aload_n 2, 1) := by decide +kernel
theorem dX2_plannedAt_11 : decode cX2_plannedAt 11 = .ok (.getfield 86, 3) := by decide +kernel
theorem dX2_plannedAt_14 : decode cX2_plannedAt 14 = .ok (.ifCond .lt 15, 3) := by decide +kernel
theorem dX2_plannedAt_17 : decode cX2_plannedAt 17 = .ok (.aload_n 2, 1) := by decide +kernel
theorem dX2_plannedAt_18 : decode cX2_plannedAt 18 = .ok (.getfield 86, 3) := by decide +kernel
theorem dX2_plannedAt_21 : decode cX2_plannedAt 21 = .ok (.aload_n 0, 1) := by decide +kernel
theorem dX2_plannedAt_22 : decode cX2_plannedAt 22 = .ok (.getfield 11, 3) := by decide +kernel
theorem dX2_plannedAt_25 : decode cX2_plannedAt 25 = .ok (.arraylength, 1) := by decide +kernel
theorem dX2_plannedAt_26 : decode cX2_plannedAt 26 = .ok (.if_icmp .lt 5, 3) := by decide +kernel
theorem dX2_plannedAt_29 : decode cX2_plannedAt 29 = .ok (.aconst_null, 1) := by decide +kernel
theorem dX2_plannedAt_30 : decode cX2_plannedAt 30 = .ok (.areturn, 1) := by decide +kernel
theorem dX2_plannedAt_31 : decode cX2_plannedAt 31 = .ok (.aload_n 0, 1) := by decide +kernel
theorem dX2_plannedAt_32 : decode cX2_plannedAt 32 = .ok (.getfield 11, 3) := by decide +kernel
theorem dX2_plannedAt_35 : decode cX2_plannedAt 35 = .ok (.aload_n 2, 1) := by decide +kernel
theorem dX2_plannedAt_36 : decode cX2_plannedAt 36 = .ok (.getfield 86, 3) := by decide +kernel
theorem dX2_plannedAt_39 : decode cX2_plannedAt 39 = .ok (.aaload, 1) := by decide +kernel
theorem dX2_plannedAt_40 : decode cX2_plannedAt 40 = .ok (.areturn, 1) := by decide +kernel
