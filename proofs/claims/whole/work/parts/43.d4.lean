theorem dX11_plainly_160 : decode cX11_plainly 160 = .ok (.invokestatic 121, 3) := by decide +kernel
theorem dX11_plainly_163 : decode cX11_plainly 163 = .ok (.goto 4, 3) := by decide +kernel
theorem dX11_plainly_166 : decode cX11_plainly 166 = .ok (.iload_n 2, 1) := by decide +kernel
theorem dX11_plainly_167 : decode cX11_plainly 167 = .ok (.iastore, 1) := by decide +kernel
theorem dX11_plainly_168 : decode cX11_plainly 168 = .ok (.aload_n 0, 1) := by decide +kernel
theorem dX11_plainly_169 : decode cX11_plainly 169 = .ok (.getfield 35, 3) := by decide +kernel
theorem dX11_plainly_172 : decode cX11_plainly 172 = .ok (.iload_n 1, 1) := by decide +kernel
theorem dX11_plainly_173 : decode cX11_plainly 173 = .ok (.aload_n 0, 1) := by decide +kernel
theorem dX11_plainly_174 : decode cX11_plainly 174 = .ok (.getfield 32, 3) := by decide +kernel
theorem dX11_plainly_177 : decode cX11_plainly 177 = .ok (.iload_n 1, 1) := by decide +kernel
theorem dX11_plainly_178 : decode cX11_plainly 178 = .ok (.iaload, 1) := by decide +kernel
theorem dX11_plainly_179 : decode cX11_plainly 179 = .ok (.iconst 2, 1) := by decide +kernel
theorem dX11_plainly_180 : decode cX11_plainly 180 = .ok (.if_icmp .ne 7, 3) := by decide +kernel
theorem dX11_plainly_183 : decode cX11_plainly 183 = .ok (.iload_n 3, 1) := by decide +kernel
theorem dX11_plainly_184 : decode cX11_plainly 184 = .ok (.goto 4, 3) := by decide +kernel
theorem dX11_plainly_187 : decode cX11_plainly 187 = .ok (.iconst 0, 1) := by decide +kernel
theorem dX11_plainly_188 : decode cX11_plainly 188 = .ok (.iastore, 1) := by decide +kernel
theorem dX11_plainly_189 : decode cX11_plainly 189 = .ok (.return_, 1) := by decide +kernel
theorem dX11_hasAhead_0 : decode cX11_hasAhead 0 = .ok (.iconst 0, 1) := by decide +kernel
theorem dX11_hasAhead_1 : decode cX11_hasAhead 1 = .ok (.istore 4, 2) := by decide +kernel
theorem dX11_hasAhead_3 : decode cX11_hasAhead 3 = .ok (.iconst 0, 1) := by decide +kernel
theorem dX11_hasAhead_4 : decode cX11_hasAhead 4 = .ok (.istore 5, 2) := by decide +kernel
theorem dX11_hasAhead_6 : decode cX11_hasAhead 6 = .ok (.iload 5, 2) := by decide +kernel
theorem dX11_hasAhead_8 : decode cX11_hasAhead 8 = .ok (.iload_n 2, 1) := by decide +kernel
theorem dX11_hasAhead_9 : decode cX11_hasAhead 9 = .ok (.if_icmp .ge 37, 3) := by decide +kernel
theorem dX11_hasAhead_12 : decode cX11_hasAhead 12 = .ok (.iload 4, 2) := by decide +kernel
theorem dX11_hasAhead_14 : decode cX11_hasAhead 14 = .ok (.ifCond .ne 19, 3) := by decide +kernel
theorem dX11_hasAhead_17 : decode cX11_hasAhead 17 = .ok (.aload_n 0, 1) := by decide +kernel
theorem dX11_hasAhead_18 : decode cX11_hasAhead 18 = .ok (.getfield 41, 3) := by decide +kernel
theorem dX11_hasAhead_21 : decode cX11_hasAhead 21 = .ok (.bipush 6, 2) := by decide +kernel
theorem dX11_hasAhead_23 : decode cX11_hasAhead 23 = .ok (.iload_n 1, 1) := by decide +kernel
theorem dX11_hasAhead_24 : decode cX11_hasAhead 24 = .ok (.imul, 1) := by decide +kernel
theorem dX11_hasAhead_25 : decode cX11_hasAhead 25 = .ok (.iload 5, 2) := by decide +kernel
theorem dX11_hasAhead_27 : decode cX11_hasAhead 27 = .ok (.iadd, 1) := by decide +kernel
theorem dX11_hasAhead_28 : decode cX11_hasAhead 28 = .ok (.iaload, 1) := by decide +kernel
theorem dX11_hasAhead_29 : decode cX11_hasAhead 29 = .ok (.iload_n 3, 1) := by decide +kernel
theorem dX11_hasAhead_30 : decode cX11_hasAhead 30 = .ok (.if_icmp .ne 7, 3) := by decide +kernel
theorem dX11_hasAhead_33 : decode cX11_hasAhead 33 = .ok (.iconst 1, 1) := by decide +kernel
theorem dX11_hasAhead_34 : decode cX11_hasAhead 34 = .ok (.goto 4, 3) := by decide +kernel
theorem dX11_hasAhead_37 : decode cX11_hasAhead 37 = .ok (.iconst 0, 1) := by decide +kernel
theorem dX11_hasAhead_38 : decode cX11_hasAhead 38 = .ok (.istore 4, 2) := by decide +kernel
theorem dX11_hasAhead_40 : decode cX11_hasAhead 40 = .ok (.iinc 5 1, 3) := by decide +kernel
theorem dX11_hasAhead_43 : decode cX11_hasAhead 43 = .ok (.goto (-37), 3) := by decide +kernel
theorem dX11_hasAhead_46 : decode cX11_hasAhead 46 = .ok (.iload 4, 2) := by decide +kernel
theorem dX11_hasAhead_48 : decode cX11_hasAhead 48 = .ok (.ireturn, 1) := by decide +kernel
theorem dX11_thins_0 : decode cX11_thins 0 = .ok (.iconst 0, 1) := by decide +kernel
theorem dX11_thins_1 : decode cX11_thins 1 = .ok (.istore_n 2, 1) := by decide +kernel
theorem dX11_thins_2 : decode cX11_thins 2 = .ok (.iconst 0, 1) := by decide +kernel
theorem dX11_thins_3 : decode cX11_thins 3 = .ok (.istore_n 3, 1) := by decide +kernel
theorem dX11_thins_4 : decode cX11_thins 4 = .ok (.iconst 0, 1) := by decide +kernel
theorem dX11_thins_5 : decode cX11_thins 5 = .ok (.istore 4, 2) := by decide +kernel
theorem dX11_thins_7 : decode cX11_thins 7 = .ok (.iload 4, 2) := by decide +kernel
theorem dX11_thins_9 : decode cX11_thins 9 = .ok (.aload_n 0, 1) := by decide +kernel
theorem dX11_thins_10 : decode cX11_thins 10 = .ok (.getfield 38, 3) := by decide +kernel
theorem dX11_thins_13 : decode cX11_thins 13 = .ok (.iload_n 1, 1) := by decide +kernel
theorem dX11_thins_14 : decode cX11_thins 14 = .ok (.iaload, 1) := by decide +kernel
theorem dX11_thins_15 : decode cX11_thins 15 = .ok (.if_icmp .ge 87, 3) := by decide +kernel
theorem dX11_thins_18 : decode cX11_thins 18 = .ok (.aload_n 0, 1) := by decide +kernel
theorem dX11_thins_19 : decode cX11_thins 19 = .ok (.getfield 41, 3) := by decide +kernel
theorem dX11_thins_22 : decode cX11_thins 22 = .ok (.bipush 6, 2) := by decide +kernel
theorem dX11_thins_24 : decode cX11_thins 24 = .ok (.iload_n 1, 1) := by decide +kernel
theorem dX11_thins_25 : decode cX11_thins 25 = .ok (.imul, 1) := by decide +kernel
theorem dX11_thins_26 : decode cX11_thins 26 = .ok (.iload 4, 2) := by decide +kernel
theorem dX11_thins_28 : decode cX11_thins 28 = .ok (.iadd, 1) := by decide +kernel
theorem dX11_thins_29 : decode cX11_thins 29 = .ok (.iaload, 1) := by decide +kernel
theorem dX11_thins_30 : decode cX11_thins 30 = .ok (.istore 5, 2) := by decide +kernel
theorem dX11_thins_32 : decode cX11_thins 32 = .ok (.aload_n 0, 1) := by decide +kernel
theorem dX11_thins_33 : decode cX11_thins 33 = .ok (.iload_n 1, 1) := by decide +kernel
theorem dX11_thins_34 : decode cX11_thins 34 = .ok (.iload_n 2, 1) := by decide +kernel
theorem dX11_thins_35 : decode cX11_thins 35 = .ok (.iload 5, 2) := by decide +kernel
theorem dX11_thins_37 : decode cX11_thins 37 = .ok (.invokevirtual 125, 3) := by decide +kernel
theorem dX11_thins_40 : decode cX11_thins 40 = .ok (.ifCond .ne 56, 3) := by decide +kernel
theorem dX11_thins_43 : decode cX11_thins 43 = .ok (.iload_n 3, 1) := by decide +kernel
theorem dX11_thins_44 : decode cX11_thins 44 = .ok (.ifCond .ne 30, 3) := by decide +kernel
theorem dX11_thins_47 : decode cX11_thins 47 = .ok (.aload_n 0, 1) := by decide +kernel
theorem dX11_thins_48 : decode cX11_thins 48 = .ok (.iload_n 1, 1) := by decide +kernel
theorem dX11_thins_49 : decode cX11_thins 49 = .ok (.iload_n 2, 1) := by decide +kernel
theorem dX11_thins_50 : decode cX11_thins 50 = .ok (.iload 5, 2) := by decide +kernel
theorem dX11_thins_52 : decode cX11_thins 52 = .ok (.iconst 2, 1) := by decide +kernel
theorem dX11_thins_53 : decode cX11_thins 53 = .ok (.irem, 1) := by decide +kernel
theorem dX11_thins_54 : decode cX11_thins 54 = .ok (.ifCond .ne 10, 3) := by decide +kernel
theorem dX11_thins_57 : decode cX11_thins 57 = .ok (.iload 5, 2) := by decide +kernel
theorem dX11_thins_59 : decode cX11_thins 59 = .ok (.iconst 1, 1) := by decide +kernel
theorem dX11_thins_60 : decode cX11_thins 60 = .ok (.iadd, 1) := by decide +kernel
theorem dX11_thins_61 : decode cX11_thins 61 = .ok (.goto 7, 3) := by decide +kernel
theorem dX11_thins_64 : decode cX11_thins 64 = .ok (.iload 5, 2) := by decide +kernel
theorem dX11_thins_66 : decode cX11_thins 66 = .ok (.iconst 1, 1) := by decide +kernel
theorem dX11_thins_67 : decode cX11_thins 67 = .ok (.isub, 1) := by decide +kernel
theorem dX11_thins_68 : decode cX11_thins 68 = .ok (.invokevirtual 125, 3) := by decide +kernel
theorem dX11_thins_71 : decode cX11_thins 71 = .ok (.ifCond .eq 7, 3) := by decide +kernel
theorem dX11_thins_74 : decode cX11_thins 74 = .ok (.iconst 1, 1) := by decide +kernel
theorem dX11_thins_75 : decode cX11_thins 75 = .ok (.goto 4, 3) := by decide +kernel
theorem dX11_thins_78 : decode cX11_thins 78 = .ok (.iconst 0, 1) := by decide +kernel
theorem dX11_thins_79 : decode cX11_thins 79 = .ok (.istore_n 3, 1) := by decide +kernel
theorem dX11_thins_80 : decode cX11_thins 80 = .ok (.aload_n 0, 1) := by decide +kernel
theorem dX11_thins_81 : decode cX11_thins 81 = .ok (.getfield 41, 3) := by decide +kernel
theorem dX11_thins_84 : decode cX11_thins 84 = .ok (.bipush 6, 2) := by decide +kernel
theorem dX11_thins_86 : decode cX11_thins 86 = .ok (.iload_n 1, 1) := by decide +kernel
theorem dX11_thins_87 : decode cX11_thins 87 = .ok (.imul, 1) := by decide +kernel
theorem dX11_thins_88 : decode cX11_thins 88 = .ok (.iload_n 2, 1) := by decide +kernel
theorem dX11_thins_89 : decode cX11_thins 89 = .ok (.iadd, 1) := by decide +kernel
theorem dX11_thins_90 : decode cX11_thins 90 = .ok (.iload 5, 2) := by decide +kernel
theorem dX11_thins_92 : decode cX11_thins 92 = .ok (.iastore, 1) := by decide +kernel
theorem dX11_thins_93 : decode cX11_thins 93 = .ok (.iinc 2 1, 3) := by decide +kernel
theorem dX11_thins_96 : decode cX11_thins 96 = .ok (.iinc 4 1, 3) := by decide +kernel
theorem dX11_thins_99 : decode cX11_thins 99 = .ok (.goto (-92), 3) := by decide +kernel
theorem dX11_thins_102 : decode cX11_thins 102 = .ok (.aload_n 0, 1) := by decide +kernel
theorem dX11_thins_103 : decode cX11_thins 103 = .ok (.getfield 38, 3) := by decide +kernel
theorem dX11_thins_106 : decode cX11_thins 106 = .ok (.iload_n 1, 1) := by decide +kernel
theorem dX11_thins_107 : decode cX11_thins 107 = .ok (.iload_n 2, 1) := by decide +kernel
theorem dX11_thins_108 : decode cX11_thins 108 = .ok (.iastore, 1) := by decide +kernel
theorem dX11_thins_109 : decode cX11_thins 109 = .ok (.aload_n 0, 1) := by decide +kernel
theorem dX11_thins_110 : decode cX11_thins 110 = .ok (.getfield 32, 3) := by decide +kernel
theorem dX11_thins_113 : decode cX11_thins 113 = .ok (.iload_n 1, 1) := by decide +kernel
theorem dX11_thins_114 : decode cX11_thins 114 = .ok (.iaload, 1) := by decide +kernel
theorem dX11_thins_115 : decode cX11_thins 115 = .ok (.ifCond .ne 7, 3) := by decide +kernel
theorem dX11_thins_118 : decode cX11_thins 118 = .ok (.iconst 1, 1) := by decide +kernel
theorem dX11_thins_119 : decode cX11_thins 119 = .ok (.goto 4, 3) := by decide +kernel
theorem dX11_thins_122 : decode cX11_thins 122 = .ok (.iconst 0, 1) := by decide +kernel
theorem dX11_thins_123 : decode cX11_thins 123 = .ok (.istore 4, 2) := by decide +kernel
theorem dX11_thins_125 : decode cX11_thins 125 = .ok (.iload_n 3, 1) := by decide +kernel
theorem dX11_thins_126 : decode cX11_thins 126 = .ok (.ifCond .ne 7, 3) := by decide +kernel
theorem dX11_thins_129 : decode cX11_thins 129 = .ok (.iload_n 2, 1) := by decide +kernel
theorem dX11_thins_130 : decode cX11_thins 130 = .ok (.ifCond .ne 20, 3) := by decide +kernel
theorem dX11_thins_133 : decode cX11_thins 133 = .ok (.aload_n 0, 1) := by decide +kernel
theorem dX11_thins_134 : decode cX11_thins 134 = .ok (.getfield 32, 3) := by decide +kernel
theorem dX11_thins_137 : decode cX11_thins 137 = .ok (.iload_n 1, 1) := by decide +kernel
theorem dX11_thins_138 : decode cX11_thins 138 = .ok (.iload_n 3, 1) := by decide +kernel
theorem dX11_thins_139 : decode cX11_thins 139 = .ok (.iload 4, 2) := by decide +kernel
theorem dX11_thins_141 : decode cX11_thins 141 = .ok (.if_icmp .ne 7, 3) := by decide +kernel
theorem dX11_thins_144 : decode cX11_thins 144 = .ok (.iconst 4, 1) := by decide +kernel
theorem dX11_thins_145 : decode cX11_thins 145 = .ok (.goto 4, 3) := by decide +kernel
theorem dX11_thins_148 : decode cX11_thins 148 = .ok (.iconst 3, 1) := by decide +kernel
theorem dX11_thins_149 : decode cX11_thins 149 = .ok (.iastore, 1) := by decide +kernel
theorem dX11_thins_150 : decode cX11_thins 150 = .ok (.return_, 1) := by decide +kernel
theorem dX11_sorts_0 : decode cX11_sorts 0 = .ok (.iconst 1, 1) := by decide +kernel
theorem dX11_sorts_1 : decode cX11_sorts 1 = .ok (.istore_n 2, 1) := by decide +kernel
theorem dX11_sorts_2 : decode cX11_sorts 2 = .ok (.iload_n 2, 1) := by decide +kernel
theorem dX11_sorts_3 : decode cX11_sorts 3 = .ok (.aload_n 0, 1) := by decide +kernel
theorem dX11_sorts_4 : decode cX11_sorts 4 = .ok (.getfield 38, 3) := by decide +kernel
theorem dX11_sorts_7 : decode cX11_sorts 7 = .ok (.iload_n 1, 1) := by decide +kernel
theorem dX11_sorts_8 : decode cX11_sorts 8 = .ok (.iaload, 1) := by decide +kernel
theorem dX11_sorts_9 : decode cX11_sorts 9 = .ok (.if_icmp .ge 96, 3) := by decide +kernel
theorem dX11_sorts_12 : decode cX11_sorts 12 = .ok (.aload_n 0, 1) := by decide +kernel
theorem dX11_sorts_13 : decode cX11_sorts 13 = .ok (.getfield 41, 3) := by decide +kernel
theorem dX11_sorts_16 : decode cX11_sorts 16 = .ok (.bipush 6, 2) := by decide +kernel
theorem dX11_sorts_18 : decode cX11_sorts 18 = .ok (.iload_n 1, 1) := by decide +kernel
theorem dX11_sorts_19 : decode cX11_sorts 19 = .ok (.imul, 1) := by decide +kernel
theorem dX11_sorts_20 : decode cX11_sorts 20 = .ok (.iload_n 2, 1) := by decide +kernel
theorem dX11_sorts_21 : decode cX11_sorts 21 = .ok (.iadd, 1) := by decide +kernel
theorem dX11_sorts_22 : decode cX11_sorts 22 = .ok (.iaload, 1) := by decide +kernel
theorem dX11_sorts_23 : decode cX11_sorts 23 = .ok (.istore_n 3, 1) := by decide +kernel
theorem dX11_sorts_24 : decode cX11_sorts 24 = .ok (.iload_n 2, 1) := by decide +kernel
theorem dX11_sorts_25 : decode cX11_sorts 25 = .ok (.istore 4, 2) := by decide +kernel
theorem dX11_sorts_27 : decode cX11_sorts 27 = .ok (.iload 4, 2) := by decide +kernel
theorem dX11_sorts_29 : decode cX11_sorts 29 = .ok (.ifCond .le 57, 3) := by decide +kernel
theorem dX11_sorts_32 : decode cX11_sorts 32 = .ok (.aload_n 0, 1) := by decide +kernel
theorem dX11_sorts_33 : decode cX11_sorts 33 = .ok (.iload_n 3, 1) := by decide +kernel
theorem dX11_sorts_34 : decode cX11_sorts 34 = .ok (.aload_n 0, 1) := by decide +kernel
theorem dX11_sorts_35 : decode cX11_sorts 35 = .ok (.getfield 41, 3) := by decide +kernel
theorem dX11_sorts_38 : decode cX11_sorts 38 = .ok (.bipush 6, 2) := by decide +kernel
theorem dX11_sorts_40 : decode cX11_sorts 40 = .ok (.iload_n 1, 1) := by decide +kernel
theorem dX11_sorts_41 : decode cX11_sorts 41 = .ok (.imul, 1) := by decide +kernel
theorem dX11_sorts_42 : decode cX11_sorts 42 = .ok (.iload 4, 2) := by decide +kernel
theorem dX11_sorts_44 : decode cX11_sorts 44 = .ok (.iadd, 1) := by decide +kernel
theorem dX11_sorts_45 : decode cX11_sorts 45 = .ok (.iconst 1, 1) := by decide +kernel
theorem dX11_sorts_46 : decode cX11_sorts 46 = .ok (.isub, 1) := by decide +kernel
theorem dX11_sorts_47 : decode cX11_sorts 47 = .ok (.iaload, 1) := by decide +kernel
theorem dX11_sorts_48 : decode cX11_sorts 48 = .ok (.invokevirtual 128, 3) := by decide +kernel
theorem dX11_sorts_51 : decode cX11_sorts 51 = .ok (.ifCond .eq 35, 3) := by decide +kernel
theorem dX11_sorts_54 : decode cX11_sorts 54 = .ok (.aload_n 0, 1) := by decide +kernel
theorem dX11_sorts_55 : decode cX11_sorts 55 = .ok (.getfield 41, 3) := by decide +kernel
theorem dX11_sorts_58 : decode cX11_sorts 58 = .ok (.bipush 6, 2) := by decide +kernel
theorem dX11_sorts_60 : decode cX11_sorts 60 = .ok (.iload_n 1, 1) := by decide +kernel
theorem dX11_sorts_61 : decode cX11_sorts 61 = .ok (.imul, 1) := by decide +kernel
theorem dX11_sorts_62 : decode cX11_sorts 62 = .ok (.iload 4, 2) := by decide +kernel
theorem dX11_sorts_64 : decode cX11_sorts 64 = .ok (.iadd, 1) := by decide +kernel
theorem dX11_sorts_65 : decode cX11_sorts 65 = .ok (.aload_n 0, 1) := by decide +kernel
theorem dX11_sorts_66 : decode cX11_sorts 66 = .ok (.getfield 41, 3) := by decide +kernel
theorem dX11_sorts_69 : decode cX11_sorts 69 = .ok (.bipush 6, 2) := by decide +kernel
theorem dX11_sorts_71 : decode cX11_sorts 71 = .ok (.iload_n 1, 1) := by decide +kernel
theorem dX11_sorts_72 : decode cX11_sorts 72 = .ok (.imul, 1) := by decide +kernel
theorem dX11_sorts_73 : decode cX11_sorts 73 = .ok (.iload 4, 2) := by decide +kernel
theorem dX11_sorts_75 : decode cX11_sorts 75 = .ok (.iadd, 1) := by decide +kernel
theorem dX11_sorts_76 : decode cX11_sorts 76 = .ok (.iconst 1, 1) := by decide +kernel
theorem dX11_sorts_77 : decode cX11_sorts 77 = .ok (.isub, 1) := by decide +kernel
theorem dX11_sorts_78 : decode cX11_sorts 78 = .ok (.iaload, 1) := by decide +kernel
theorem dX11_sorts_79 : decode cX11_sorts 79 = .ok (.iastore, 1) := by decide +kernel
theorem dX11_sorts_80 : decode cX11_sorts 80 = .ok (.iinc 4 (-1), 3) := by decide +kernel
theorem dX11_sorts_83 : decode cX11_sorts 83 = .ok (.goto (-56), 3) := by decide +kernel
theorem dX11_sorts_86 : decode cX11_sorts 86 = .ok (.aload_n 0, 1) := by decide +kernel
theorem dX11_sorts_87 : decode cX11_sorts 87 = .ok (.getfield 41, 3) := by decide +kernel
theorem dX11_sorts_90 : decode cX11_sorts 90 = .ok (.bipush 6, 2) := by decide +kernel
theorem dX11_sorts_92 : decode cX11_sorts 92 = .ok (.iload_n 1, 1) := by decide +kernel
theorem dX11_sorts_93 : decode cX11_sorts 93 = .ok (.imul, 1) := by decide +kernel
theorem dX11_sorts_94 : decode cX11_sorts 94 = .ok (.iload 4, 2) := by decide +kernel
theorem dX11_sorts_96 : decode cX11_sorts 96 = .ok (.iadd, 1) := by decide +kernel
theorem dX11_sorts_97 : decode cX11_sorts 97 = .ok (.iload_n 3, 1) := by decide +kernel
theorem dX11_sorts_98 : decode cX11_sorts 98 = .ok (.iastore, 1) := by decide +kernel
theorem dX11_sorts_99 : decode cX11_sorts 99 = .ok (.iinc 2 1, 3) := by decide +kernel
theorem dX11_sorts_102 : decode cX11_sorts 102 = .ok (.goto (-100), 3) := by decide +kernel
theorem dX11_sorts_105 : decode cX11_sorts 105 = .ok (.return_, 1) := by decide +kernel
theorem dX11_isAhead_0 : decode cX11_isAhead 0 = .ok (.aload_n 0, 1) := by decide +kernel
theorem dX11_isAhead_1 : decode cX11_isAhead 1 = .ok (.iload_n 1, 1) := by decide +kernel
theorem dX11_isAhead_2 : decode cX11_isAhead 2 = .ok (.invokevirtual 98, 3) := by decide +kernel
theorem dX11_isAhead_5 : decode cX11_isAhead 5 = .ok (.istore_n 3, 1) := by decide +kernel
theorem dX11_isAhead_6 : decode cX11_isAhead 6 = .ok (.aload_n 0, 1) := by decide +kernel
theorem dX11_isAhead_7 : decode cX11_isAhead 7 = .ok (.iload_n 2, 1) := by decide +kernel
theorem dX11_isAhead_8 : decode cX11_isAhead 8 = .ok (.invokevirtual 98, 3) := by decide +kernel
theorem dX11_isAhead_11 : decode cX11_isAhead 11 = .ok (.istore 4, 2) := by decide +kernel
theorem dX11_isAhead_13 : decode cX11_isAhead 13 = .ok (.iload_n 3, 1) := by decide +kernel
theorem dX11_isAhead_14 : decode cX11_isAhead 14 = .ok (.iload 4, 2) := by decide +kernel
theorem dX11_isAhead_16 : decode cX11_isAhead 16 = .ok (.if_icmp .lt 14, 3) := by decide +kernel
theorem dX11_isAhead_19 : decode cX11_isAhead 19 = .ok (.iload_n 3, 1) := by decide +kernel
theorem dX11_isAhead_20 : decode cX11_isAhead 20 = .ok (.iload 4, 2) := by decide +kernel
theorem dX11_isAhead_22 : decode cX11_isAhead 22 = .ok (.if_icmp .ne 12, 3) := by decide +kernel
theorem dX11_isAhead_25 : decode cX11_isAhead 25 = .ok (.iload_n 1, 1) := by decide +kernel
theorem dX11_isAhead_26 : decode cX11_isAhead 26 = .ok (.iload_n 2, 1) := by decide +kernel
theorem dX11_isAhead_27 : decode cX11_isAhead 27 = .ok (.if_icmp .ge 7, 3) := by decide +kernel
theorem dX11_isAhead_30 : decode cX11_isAhead 30 = .ok (.iconst 1, 1) := by decide +kernel
theorem dX11_isAhead_31 : decode cX11_isAhead 31 = .ok (.goto 4, 3) := by decide +kernel
theorem dX11_isAhead_34 : decode cX11_isAhead 34 = .ok (.iconst 0, 1) := by decide +kernel
theorem dX11_isAhead_35 : decode cX11_isAhead 35 = .ok (.ireturn, 1) := by decide +kernel
theorem dX11_estimated_0 : decode cX11_estimated 0 = .ok (.iload_n 1, 1) := by decide +kernel
theorem dX11_estimated_1 : decode cX11_estimated 1 = .ok (.iconst 2, 1) := by decide +kernel
theorem dX11_estimated_2 : decode cX11_estimated 2 = .ok (.if_icmp .ne 10, 3) := by decide +kernel
theorem dX11_estimated_5 : decode cX11_estimated 5 = .ok (.iload 4, 2) := by decide +kernel
theorem dX11_estimated_7 : decode cX11_estimated 7 = .ok (.iload_n 2, 1) := by decide +kernel
theorem dX11_estimated_8 : decode cX11_estimated 8 = .ok (.idiv, 1) := by decide +kernel
theorem dX11_estimated_9 : decode cX11_estimated 9 = .ok (.goto 5, 3) := by decide +kernel
theorem dX11_estimated_12 : decode cX11_estimated 12 = .ok (.iload 4, 2) := by decide +kernel
theorem dX11_estimated_14 : decode cX11_estimated 14 = .ok (.istore 5, 2) := by decide +kernel
theorem dX11_estimated_16 : decode cX11_estimated 16 = .ok (.iload_n 1, 1) := by decide +kernel
theorem dX11_estimated_17 : decode cX11_estimated 17 = .ok (.ifCond .ne 7, 3) := by decide +kernel
theorem dX11_estimated_20 : decode cX11_estimated 20 = .ok (.iload_n 3, 1) := by decide +kernel
theorem dX11_estimated_21 : decode cX11_estimated 21 = .ok (.goto 42, 3) := by decide +kernel
theorem dX11_estimated_24 : decode cX11_estimated 24 = .ok (.iload_n 1, 1) := by decide +kernel
theorem dX11_estimated_25 : decode cX11_estimated 25 = .ok (.iconst 3, 1) := by decide +kernel
theorem dX11_estimated_26 : decode cX11_estimated 26 = .ok (.if_icmp .ne 10, 3) := by decide +kernel
theorem dX11_estimated_29 : decode cX11_estimated 29 = .ok (.aload_n 0, 1) := by decide +kernel
theorem dX11_estimated_30 : decode cX11_estimated 30 = .ok (.invokevirtual 90, 3) := by decide +kernel
theorem dX11_estimated_33 : decode cX11_estimated 33 = .ok (.goto 30, 3) := by decide +kernel
theorem dX11_estimated_36 : decode cX11_estimated 36 = .ok (.iload_n 1, 1) := by decide +kernel
theorem dX11_estimated_37 : decode cX11_estimated 37 = .ok (.iconst 4, 1) := by decide +kernel
theorem dX11_estimated_38 : decode cX11_estimated 38 = .ok (.if_icmp .ne 7, 3) := by decide +kernel
theorem dX11_estimated_41 : decode cX11_estimated 41 = .ok (.iconst 0, 1) := by decide +kernel
theorem dX11_estimated_42 : decode cX11_estimated 42 = .ok (.goto 21, 3) := by decide +kernel
theorem dX11_estimated_45 : decode cX11_estimated 45 = .ok (.iload 5, 2) := by decide +kernel
theorem dX11_estimated_47 : decode cX11_estimated 47 = .ok (.aload_n 0, 1) := by decide +kernel
theorem dX11_estimated_48 : decode cX11_estimated 48 = .ok (.invokevirtual 90, 3) := by decide +kernel
theorem dX11_estimated_51 : decode cX11_estimated 51 = .ok (.if_icmp .ge 8, 3) := by decide +kernel
theorem dX11_estimated_54 : decode cX11_estimated 54 = .ok (.iload 5, 2) := by decide +kernel
theorem dX11_estimated_56 : decode cX11_estimated 56 = .ok (.goto 7, 3) := by decide +kernel
theorem dX11_estimated_59 : decode cX11_estimated 59 = .ok (.aload_n 0, 1) := by decide +kernel
theorem dX11_estimated_60 : decode cX11_estimated 60 = .ok (.invokevirtual 90, 3) := by decide +kernel
theorem dX11_estimated_63 : decode cX11_estimated 63 = .ok (.ireturn, 1) := by decide +kernel
theorem dX11_estimates_0 : decode cX11_estimates 0 = .ok (.bipush 40, 2) := by decide +kernel
theorem dX11_estimates_2 : decode cX11_estimates 2 = .ok (.istore_n 2, 1) := by decide +kernel
theorem dX11_estimates_3 : decode cX11_estimates 3 = .ok (.iconst 0, 1) := by decide +kernel
theorem dX11_estimates_4 : decode cX11_estimates 4 = .ok (.istore_n 3, 1) := by decide +kernel
theorem dX11_estimates_5 : decode cX11_estimates 5 = .ok (.iconst 0, 1) := by decide +kernel
theorem dX11_estimates_6 : decode cX11_estimates 6 = .ok (.istore 4, 2) := by decide +kernel
theorem dX11_estimates_8 : decode cX11_estimates 8 = .ok (.iload 4, 2) := by decide +kernel
theorem dX11_estimates_10 : decode cX11_estimates 10 = .ok (.aload_n 0, 1) := by decide +kernel
theorem dX11_estimates_11 : decode cX11_estimates 11 = .ok (.getfield 38, 3) := by decide +kernel
theorem dX11_estimates_14 : decode cX11_estimates 14 = .ok (.iload_n 1, 1) := by decide +kernel
theorem dX11_estimates_15 : decode cX11_estimates 15 = .ok (.iaload, 1) := by decide +kernel
theorem dX11_estimates_16 : decode cX11_estimates 16 = .ok (.if_icmp .ge 45, 3) := by decide +kernel
theorem dX11_estimates_19 : decode cX11_estimates 19 = .ok (.aload_n 0, 1) := by decide +kernel
theorem dX11_estimates_20 : decode cX11_estimates 20 = .ok (.aload_n 0, 1) := by decide +kernel
theorem dX11_estimates_21 : decode cX11_estimates 21 = .ok (.getfield 41, 3) := by decide +kernel
theorem dX11_estimates_24 : decode cX11_estimates 24 = .ok (.bipush 6, 2) := by decide +kernel
theorem dX11_estimates_26 : decode cX11_estimates 26 = .ok (.iload_n 1, 1) := by decide +kernel
theorem dX11_estimates_27 : decode cX11_estimates 27 = .ok (.imul, 1) := by decide +kernel
theorem dX11_estimates_28 : decode cX11_estimates 28 = .ok (.iload 4, 2) := by decide +kernel
theorem dX11_estimates_30 : decode cX11_estimates 30 = .ok (.iadd, 1) := by decide +kernel
theorem dX11_estimates_31 : decode cX11_estimates 31 = .ok (.iaload, 1) := by decide +kernel
theorem dX11_estimates_32 : decode cX11_estimates 32 = .ok (.invokevirtual 98, 3) := by decide +kernel
theorem dX11_estimates_35 : decode cX11_estimates 35 = .ok (.istore 5, 2) := by decide +kernel
theorem dX11_estimates_37 : decode cX11_estimates 37 = .ok (.iload 5, 2) := by decide +kernel
theorem dX11_estimates_39 : decode cX11_estimates 39 = .ok (.iload_n 2, 1) := by decide +kernel
theorem dX11_estimates_40 : decode cX11_estimates 40 = .ok (.if_icmp .ge 8, 3) := by decide +kernel
theorem dX11_estimates_43 : decode cX11_estimates 43 = .ok (.iload 5, 2) := by decide +kernel
theorem dX11_estimates_45 : decode cX11_estimates 45 = .ok (.goto 4, 3) := by decide +kernel
theorem dX11_estimates_48 : decode cX11_estimates 48 = .ok (.iload_n 2, 1) := by decide +kernel
theorem dX11_estimates_49 : decode cX11_estimates 49 = .ok (.istore_n 2, 1) := by decide +kernel
theorem dX11_estimates_50 : decode cX11_estimates 50 = .ok (.iload_n 3, 1) := by decide +kernel
theorem dX11_estimates_51 : decode cX11_estimates 51 = .ok (.iload 5, 2) := by decide +kernel
theorem dX11_estimates_53 : decode cX11_estimates 53 = .ok (.iadd, 1) := by decide +kernel
theorem dX11_estimates_54 : decode cX11_estimates 54 = .ok (.istore_n 3, 1) := by decide +kernel
theorem dX11_estimates_55 : decode cX11_estimates 55 = .ok (.iinc 4 1, 3) := by decide +kernel
theorem dX11_estimates_58 : decode cX11_estimates 58 = .ok (.goto (-50), 3) := by decide +kernel
theorem dX11_estimates_61 : decode cX11_estimates 61 = .ok (.aload_n 0, 1) := by decide +kernel
theorem dX11_estimates_62 : decode cX11_estimates 62 = .ok (.getfield 44, 3) := by decide +kernel
theorem dX11_estimates_65 : decode cX11_estimates 65 = .ok (.iload_n 1, 1) := by decide +kernel
theorem dX11_estimates_66 : decode cX11_estimates 66 = .ok (.aload_n 0, 1) := by decide +kernel
theorem dX11_estimates_67 : decode cX11_estimates 67 = .ok (.aload_n 0, 1) := by decide +kernel
theorem dX11_estimates_68 : decode cX11_estimates 68 = .ok (.getfield 32, 3) := by decide +kernel
theorem dX11_estimates_71 : decode cX11_estimates 71 = .ok (.iload_n 1, 1) := by decide +kernel
theorem dX11_estimates_72 : decode cX11_estimates 72 = .ok (.iaload, 1) := by decide +kernel
theorem dX11_estimates_73 : decode cX11_estimates 73 = .ok (.aload_n 0, 1) := by decide +kernel
theorem dX11_estimates_74 : decode cX11_estimates 74 = .ok (.getfield 35, 3) := by decide +kernel
theorem dX11_estimates_77 : decode cX11_estimates 77 = .ok (.iload_n 1, 1) := by decide +kernel
theorem dX11_estimates_78 : decode cX11_estimates 78 = .ok (.iaload, 1) := by decide +kernel
theorem dX11_estimates_79 : decode cX11_estimates 79 = .ok (.iload_n 2, 1) := by decide +kernel
theorem dX11_estimates_80 : decode cX11_estimates 80 = .ok (.iload_n 3, 1) := by decide +kernel
theorem dX11_estimates_81 : decode cX11_estimates 81 = .ok (.invokevirtual 131, 3) := by decide +kernel
theorem dX11_estimates_84 : decode cX11_estimates 84 = .ok (.iastore, 1) := by decide +kernel
theorem dX11_estimates_85 : decode cX11_estimates 85 = .ok (.return_, 1) := by decide +kernel
theorem dX11_makes_0 : decode cX11_makes 0 = .ok (.aload_n 0, 1) := by decide +kernel
theorem dX11_makes_1 : decode cX11_makes 1 = .ok (.aload_n 0, 1) := by decide +kernel
theorem dX11_makes_2 : decode cX11_makes 2 = .ok (.getfield 108, 3) := by decide +kernel
theorem dX11_makes_5 : decode cX11_makes 5 = .ok (.putfield 135, 3) := by decide +kernel
theorem dX11_makes_8 : decode cX11_makes 8 = .ok (.aload_n 0, 1) := by decide +kernel
theorem dX11_makes_9 : decode cX11_makes 9 = .ok (.aload_n 0, 1) := by decide +kernel
theorem dX11_makes_10 : decode cX11_makes 10 = .ok (.getfield 111, 3) := by decide +kernel
theorem dX11_makes_13 : decode cX11_makes 13 = .ok (.putfield 138, 3) := by decide +kernel
theorem dX11_makes_16 : decode cX11_makes 16 = .ok (.aload_n 0, 1) := by decide +kernel
theorem dX11_makes_17 : decode cX11_makes 17 = .ok (.iconst 0, 1) := by decide +kernel
theorem dX11_makes_18 : decode cX11_makes 18 = .ok (.putfield 141, 3) := by decide +kernel
theorem dX11_makes_21 : decode cX11_makes 21 = .ok (.iconst 0, 1) := by decide +kernel
theorem dX11_makes_22 : decode cX11_makes 22 = .ok (.istore_n 1, 1) := by decide +kernel
theorem dX11_makes_23 : decode cX11_makes 23 = .ok (.iconst 0, 1) := by decide +kernel
theorem dX11_makes_24 : decode cX11_makes 24 = .ok (.istore_n 2, 1) := by decide +kernel
theorem dX11_makes_25 : decode cX11_makes 25 = .ok (.iconst 0, 1) := by decide +kernel
theorem dX11_makes_26 : decode cX11_makes 26 = .ok (.istore_n 3, 1) := by decide +kernel
theorem dX11_makes_27 : decode cX11_makes 27 = .ok (.iload_n 3, 1) := by decide +kernel
theorem dX11_makes_28 : decode cX11_makes 28 = .ok (.aload_n 0, 1) := by decide +kernel
theorem dX11_makes_29 : decode cX11_makes 29 = .ok (.getfield 105, 3) := by decide +kernel
theorem dX11_makes_32 : decode cX11_makes 32 = .ok (.if_icmp .ge 158, 3) := by decide +kernel
theorem dX11_makes_35 : decode cX11_makes 35 = .ok (.aload_n 0, 1) := by decide +kernel
theorem dX11_makes_36 : decode cX11_makes 36 = .ok (.iload_n 3, 1) := by decide +kernel
theorem dX11_makes_37 : decode cX11_makes 37 = .ok (.invokevirtual 144, 3) := by decide +kernel
theorem dX11_makes_40 : decode cX11_makes 40 = .ok (.aload_n 0, 1) := by decide +kernel
theorem dX11_makes_41 : decode cX11_makes 41 = .ok (.getfield 32, 3) := by decide +kernel
theorem dX11_makes_44 : decode cX11_makes 44 = .ok (.iload_n 3, 1) := by decide +kernel
theorem dX11_makes_45 : decode cX11_makes 45 = .ok (.iaload, 1) := by decide +kernel
theorem dX11_makes_46 : decode cX11_makes 46 = .ok (.iconst 0, 1) := by decide +kernel
theorem dX11_makes_47 : decode cX11_makes 47 = .ok (.iconst 1, 1) := by decide +kernel
theorem dX11_makes_48 : decode cX11_makes 48 = .ok (.invokestatic 78, 3) := by decide +kernel
theorem dX11_makes_51 : decode cX11_makes 51 = .ok (.ifCond .eq 8, 3) := by decide +kernel
theorem dX11_makes_54 : decode cX11_makes 54 = .ok (.aload_n 0, 1) := by decide +kernel
theorem dX11_makes_55 : decode cX11_makes 55 = .ok (.iload_n 3, 1) := by decide +kernel
theorem dX11_makes_56 : decode cX11_makes 56 = .ok (.invokevirtual 148, 3) := by decide +kernel
theorem dX11_makes_59 : decode cX11_makes 59 = .ok (.iload_n 1, 1) := by decide +kernel
theorem dX11_makes_60 : decode cX11_makes 60 = .ok (.ifCond .ne 13, 3) := by decide +kernel
theorem dX11_makes_63 : decode cX11_makes 63 = .ok (.aload_n 0, 1) := by decide +kernel
theorem dX11_makes_64 : decode cX11_makes 64 = .ok (.getfield 32, 3) := by decide +kernel
theorem dX11_makes_67 : decode cX11_makes 67 = .ok (.iload_n 3, 1) := by decide +kernel
theorem dX11_makes_68 : decode cX11_makes 68 = .ok (.iaload, 1) := by decide +kernel
theorem dX11_makes_69 : decode cX11_makes 69 = .ok (.iconst 4, 1) := by decide +kernel
theorem dX11_makes_70 : decode cX11_makes 70 = .ok (.if_icmp .ne 7, 3) := by decide +kernel
theorem dX11_makes_73 : decode cX11_makes 73 = .ok (.iconst 1, 1) := by decide +kernel
theorem dX11_makes_74 : decode cX11_makes 74 = .ok (.goto 4, 3) := by decide +kernel
theorem dX11_makes_77 : decode cX11_makes 77 = .ok (.iconst 0, 1) := by decide +kernel
theorem dX11_makes_78 : decode cX11_makes 78 = .ok (.istore_n 1, 1) := by decide +kernel
theorem dX11_makes_79 : decode cX11_makes 79 = .ok (.iload_n 2, 1) := by decide +kernel
theorem dX11_makes_80 : decode cX11_makes 80 = .ok (.ifCond .ne 13, 3) := by decide +kernel
theorem dX11_makes_83 : decode cX11_makes 83 = .ok (.aload_n 0, 1) := by decide +kernel
theorem dX11_makes_84 : decode cX11_makes 84 = .ok (.getfield 32, 3) := by decide +kernel
theorem dX11_makes_87 : decode cX11_makes 87 = .ok (.iload_n 3, 1) := by decide +kernel
theorem dX11_makes_88 : decode cX11_makes 88 = .ok (.iaload, 1) := by decide +kernel
theorem dX11_makes_89 : decode cX11_makes 89 = .ok (.iconst 3, 1) := by decide +kernel
theorem dX11_makes_90 : decode cX11_makes 90 = .ok (.if_icmp .ne 7, 3) := by decide +kernel
theorem dX11_makes_93 : decode cX11_makes 93 = .ok (.iconst 1, 1) := by decide +kernel
theorem dX11_makes_94 : decode cX11_makes 94 = .ok (.goto 4, 3) := by decide +kernel
theorem dX11_makes_97 : decode cX11_makes 97 = .ok (.iconst 0, 1) := by decide +kernel
theorem dX11_makes_98 : decode cX11_makes 98 = .ok (.istore_n 2, 1) := by decide +kernel
theorem dX11_makes_99 : decode cX11_makes 99 = .ok (.aload_n 0, 1) := by decide +kernel
theorem dX11_makes_100 : decode cX11_makes 100 = .ok (.dup, 1) := by decide +kernel
theorem dX11_makes_101 : decode cX11_makes 101 = .ok (.getfield 138, 3) := by decide +kernel
theorem dX11_makes_104 : decode cX11_makes 104 = .ok (.aload_n 0, 1) := by decide +kernel
theorem dX11_makes_105 : decode cX11_makes 105 = .ok (.getfield 108, 3) := by decide +kernel
theorem dX11_makes_108 : decode cX11_makes 108 = .ok (.iconst 2, 1) := by decide +kernel
theorem dX11_makes_109 : decode cX11_makes 109 = .ok (.if_icmp .ne 17, 3) := by decide +kernel
theorem dX11_makes_112 : decode cX11_makes 112 = .ok (.aload_n 0, 1) := by decide +kernel
theorem dX11_makes_113 : decode cX11_makes 113 = .ok (.getfield 32, 3) := by decide +kernel
theorem dX11_makes_116 : decode cX11_makes 116 = .ok (.iload_n 3, 1) := by decide +kernel
theorem dX11_makes_117 : decode cX11_makes 117 = .ok (.iaload, 1) := by decide +kernel
theorem dX11_makes_118 : decode cX11_makes 118 = .ok (.iconst 3, 1) := by decide +kernel
theorem dX11_makes_119 : decode cX11_makes 119 = .ok (.if_icmp .ne 7, 3) := by decide +kernel
theorem dX11_makes_122 : decode cX11_makes 122 = .ok (.iconst 1, 1) := by decide +kernel
theorem dX11_makes_123 : decode cX11_makes 123 = .ok (.goto 4, 3) := by decide +kernel
theorem dX11_makes_126 : decode cX11_makes 126 = .ok (.iconst 0, 1) := by decide +kernel
theorem dX11_makes_127 : decode cX11_makes 127 = .ok (.isub, 1) := by decide +kernel
theorem dX11_makes_128 : decode cX11_makes 128 = .ok (.putfield 138, 3) := by decide +kernel
theorem dX11_makes_131 : decode cX11_makes 131 = .ok (.aload_n 0, 1) := by decide +kernel
theorem dX11_makes_132 : decode cX11_makes 132 = .ok (.getfield 32, 3) := by decide +kernel
theorem dX11_makes_135 : decode cX11_makes 135 = .ok (.iload_n 3, 1) := by decide +kernel
theorem dX11_makes_136 : decode cX11_makes 136 = .ok (.iaload, 1) := by decide +kernel
theorem dX11_makes_137 : decode cX11_makes 137 = .ok (.iconst 0, 1) := by decide +kernel
theorem dX11_makes_138 : decode cX11_makes 138 = .ok (.iconst 2, 1) := by decide +kernel
theorem dX11_makes_139 : decode cX11_makes 139 = .ok (.invokestatic 78, 3) := by decide +kernel
theorem dX11_makes_142 : decode cX11_makes 142 = .ok (.ifCond .eq 23, 3) := by decide +kernel
theorem dX11_makes_145 : decode cX11_makes 145 = .ok (.aload_n 0, 1) := by decide +kernel
theorem dX11_makes_146 : decode cX11_makes 146 = .ok (.getfield 47, 3) := by decide +kernel
theorem dX11_makes_149 : decode cX11_makes 149 = .ok (.aload_n 0, 1) := by decide +kernel
theorem dX11_makes_150 : decode cX11_makes 150 = .ok (.getfield 141, 3) := by decide +kernel
theorem dX11_makes_153 : decode cX11_makes 153 = .ok (.iload_n 3, 1) := by decide +kernel
theorem dX11_makes_154 : decode cX11_makes 154 = .ok (.iastore, 1) := by decide +kernel
theorem dX11_makes_155 : decode cX11_makes 155 = .ok (.aload_n 0, 1) := by decide +kernel
theorem dX11_makes_156 : decode cX11_makes 156 = .ok (.dup, 1) := by decide +kernel
theorem dX11_makes_157 : decode cX11_makes 157 = .ok (.getfield 141, 3) := by decide +kernel
theorem dX11_makes_160 : decode cX11_makes 160 = .ok (.iconst 1, 1) := by decide +kernel
theorem dX11_makes_161 : decode cX11_makes 161 = .ok (.iadd, 1) := by decide +kernel
theorem dX11_makes_162 : decode cX11_makes 162 = .ok (.putfield 141, 3) := by decide +kernel
theorem dX11_makes_165 : decode cX11_makes 165 = .ok (.aload_n 0, 1) := by decide +kernel
theorem dX11_makes_166 : decode cX11_makes 166 = .ok (.getfield 32, 3) := by decide +kernel
theorem dX11_makes_169 : decode cX11_makes 169 = .ok (.iload_n 3, 1) := by decide +kernel
theorem dX11_makes_170 : decode cX11_makes 170 = .ok (.iaload, 1) := by decide +kernel
theorem dX11_makes_171 : decode cX11_makes 171 = .ok (.ifCond .ne 8, 3) := by decide +kernel
theorem dX11_makes_174 : decode cX11_makes 174 = .ok (.aload_n 0, 1) := by decide +kernel
theorem dX11_makes_175 : decode cX11_makes 175 = .ok (.iload_n 3, 1) := by decide +kernel
theorem dX11_makes_176 : decode cX11_makes 176 = .ok (.invokevirtual 151, 3) := by decide +kernel
theorem dX11_makes_179 : decode cX11_makes 179 = .ok (.aload_n 0, 1) := by decide +kernel
theorem dX11_makes_180 : decode cX11_makes 180 = .ok (.iload_n 3, 1) := by decide +kernel
theorem dX11_makes_181 : decode cX11_makes 181 = .ok (.invokevirtual 154, 3) := by decide +kernel
theorem dX11_makes_184 : decode cX11_makes 184 = .ok (.iinc 3 1, 3) := by decide +kernel
theorem dX11_makes_187 : decode cX11_makes 187 = .ok (.goto (-160), 3) := by decide +kernel
theorem dX11_makes_190 : decode cX11_makes 190 = .ok (.aload_n 0, 1) := by decide +kernel
theorem dX11_makes_191 : decode cX11_makes 191 = .ok (.aload_n 0, 1) := by decide +kernel
theorem dX11_makes_192 : decode cX11_makes 192 = .ok (.getfield 108, 3) := by decide +kernel
theorem dX11_makes_195 : decode cX11_makes 195 = .ok (.ifCond .ne 11, 3) := by decide +kernel
theorem dX11_makes_198 : decode cX11_makes 198 = .ok (.iload_n 1, 1) := by decide +kernel
theorem dX11_makes_199 : decode cX11_makes 199 = .ok (.ifCond .eq 7, 3) := by decide +kernel
theorem dX11_makes_202 : decode cX11_makes 202 = .ok (.iconst 4, 1) := by decide +kernel
theorem dX11_makes_203 : decode cX11_makes 203 = .ok (.goto 45, 3) := by decide +kernel
theorem dX11_makes_206 : decode cX11_makes 206 = .ok (.aload_n 0, 1) := by decide +kernel
theorem dX11_makes_207 : decode cX11_makes 207 = .ok (.getfield 108, 3) := by decide +kernel
theorem dX11_makes_210 : decode cX11_makes 210 = .ok (.iconst 1, 1) := by decide +kernel
theorem dX11_makes_211 : decode cX11_makes 211 = .ok (.if_icmp .ne 11, 3) := by decide +kernel
theorem dX11_makes_214 : decode cX11_makes 214 = .ok (.iload_n 2, 1) := by decide +kernel
theorem dX11_makes_215 : decode cX11_makes 215 = .ok (.ifCond .eq 7, 3) := by decide +kernel
theorem dX11_makes_218 : decode cX11_makes 218 = .ok (.iconst 3, 1) := by decide +kernel
theorem dX11_makes_219 : decode cX11_makes 219 = .ok (.goto 29, 3) := by decide +kernel
theorem dX11_makes_222 : decode cX11_makes 222 = .ok (.aload_n 0, 1) := by decide +kernel
theorem dX11_makes_223 : decode cX11_makes 223 = .ok (.getfield 108, 3) := by decide +kernel
theorem dX11_makes_226 : decode cX11_makes 226 = .ok (.iconst 2, 1) := by decide +kernel
theorem dX11_makes_227 : decode cX11_makes 227 = .ok (.if_icmp .ne 17, 3) := by decide +kernel
theorem dX11_makes_230 : decode cX11_makes 230 = .ok (.aload_n 0, 1) := by decide +kernel
theorem dX11_makes_231 : decode cX11_makes 231 = .ok (.getfield 138, 3) := by decide +kernel
theorem dX11_makes_234 : decode cX11_makes 234 = .ok (.aload_n 0, 1) := by decide +kernel
theorem dX11_makes_235 : decode cX11_makes 235 = .ok (.getfield 141, 3) := by decide +kernel
theorem dX11_makes_238 : decode cX11_makes 238 = .ok (.invokestatic 121, 3) := by decide +kernel
theorem dX11_makes_241 : decode cX11_makes 241 = .ok (.goto 7, 3) := by decide +kernel
theorem dX11_makes_244 : decode cX11_makes 244 = .ok (.aload_n 0, 1) := by decide +kernel
theorem dX11_makes_245 : decode cX11_makes 245 = .ok (.getfield 108, 3) := by decide +kernel
theorem dX11_makes_248 : decode cX11_makes 248 = .ok (.putfield 135, 3) := by decide +kernel
theorem dX11_makes_251 : decode cX11_makes 251 = .ok (.aload_n 0, 1) := by decide +kernel
theorem dX11_makes_252 : decode cX11_makes 252 = .ok (.aload_n 0, 1) := by decide +kernel
theorem dX11_makes_253 : decode cX11_makes 253 = .ok (.getfield 141, 3) := by decide +kernel
theorem dX11_makes_256 : decode cX11_makes 256 = .ok (.ifCond .ne 14, 3) := by decide +kernel
theorem dX11_makes_259 : decode cX11_makes 259 = .ok (.aload_n 0, 1) := by decide +kernel
theorem dX11_makes_260 : decode cX11_makes 260 = .ok (.getfield 135, 3) := by decide +kernel
theorem dX11_makes_263 : decode cX11_makes 263 = .ok (.ifCond .ne 7, 3) := by decide +kernel
theorem dX11_makes_266 : decode cX11_makes 266 = .ok (.iconst 3, 1) := by decide +kernel
theorem dX11_makes_267 : decode cX11_makes 267 = .ok (.goto 26, 3) := by decide +kernel
theorem dX11_makes_270 : decode cX11_makes 270 = .ok (.aload_n 0, 1) := by decide +kernel
theorem dX11_makes_271 : decode cX11_makes 271 = .ok (.getfield 141, 3) := by decide +kernel
theorem dX11_makes_274 : decode cX11_makes 274 = .ok (.ifCond .ne 15, 3) := by decide +kernel
theorem dX11_makes_277 : decode cX11_makes 277 = .ok (.aload_n 0, 1) := by decide +kernel
theorem dX11_makes_278 : decode cX11_makes 278 = .ok (.getfield 135, 3) := by decide +kernel
theorem dX11_makes_281 : decode cX11_makes 281 = .ok (.iconst 1, 1) := by decide +kernel
theorem dX11_makes_282 : decode cX11_makes 282 = .ok (.if_icmp .ne 7, 3) := by decide +kernel
theorem dX11_makes_285 : decode cX11_makes 285 = .ok (.iconst 4, 1) := by decide +kernel
theorem dX11_makes_286 : decode cX11_makes 286 = .ok (.goto 7, 3) := by decide +kernel
theorem dX11_makes_289 : decode cX11_makes 289 = .ok (.aload_n 0, 1) := by decide +kernel
theorem dX11_makes_290 : decode cX11_makes 290 = .ok (.getfield 135, 3) := by decide +kernel
theorem dX11_makes_293 : decode cX11_makes 293 = .ok (.putfield 135, 3) := by decide +kernel
theorem dX11_makes_296 : decode cX11_makes 296 = .ok (.aload_n 0, 1) := by decide +kernel
theorem dX11_makes_297 : decode cX11_makes 297 = .ok (.aload_n 0, 1) := by decide +kernel
theorem dX11_makes_298 : decode cX11_makes 298 = .ok (.getfield 135, 3) := by decide +kernel
theorem dX11_makes_301 : decode cX11_makes 301 = .ok (.iconst 2, 1) := by decide +kernel
theorem dX11_makes_302 : decode cX11_makes 302 = .ok (.if_icmp .ne 10, 3) := by decide +kernel
theorem dX11_makes_305 : decode cX11_makes 305 = .ok (.aload_n 0, 1) := by decide +kernel
theorem dX11_makes_306 : decode cX11_makes 306 = .ok (.getfield 138, 3) := by decide +kernel
theorem dX11_makes_309 : decode cX11_makes 309 = .ok (.goto 4, 3) := by decide +kernel
theorem dX11_makes_312 : decode cX11_makes 312 = .ok (.iconst 0, 1) := by decide +kernel
theorem dX11_makes_313 : decode cX11_makes 313 = .ok (.putfield 138, 3) := by decide +kernel
theorem dX11_makes_316 : decode cX11_makes 316 = .ok (.aload_n 0, 1) := by decide +kernel
theorem dX11_makes_317 : decode cX11_makes 317 = .ok (.aload_n 0, 1) := by decide +kernel
theorem dX11_makes_318 : decode cX11_makes 318 = .ok (.getfield 135, 3) := by decide +kernel
theorem dX11_makes_321 : decode cX11_makes 321 = .ok (.iconst 0, 1) := by decide +kernel
theorem dX11_makes_322 : decode cX11_makes 322 = .ok (.iconst 2, 1) := by decide +kernel
theorem dX11_makes_323 : decode cX11_makes 323 = .ok (.invokestatic 78, 3) := by decide +kernel
theorem dX11_makes_326 : decode cX11_makes 326 = .ok (.ifCond .eq 10, 3) := by decide +kernel
theorem dX11_makes_329 : decode cX11_makes 329 = .ok (.aload_n 0, 1) := by decide +kernel
theorem dX11_makes_330 : decode cX11_makes 330 = .ok (.getfield 141, 3) := by decide +kernel
theorem dX11_makes_333 : decode cX11_makes 333 = .ok (.goto 4, 3) := by decide +kernel
theorem dX11_makes_336 : decode cX11_makes 336 = .ok (.iconst 0, 1) := by decide +kernel
theorem dX11_makes_337 : decode cX11_makes 337 = .ok (.putfield 141, 3) := by decide +kernel
theorem dX11_makes_340 : decode cX11_makes 340 = .ok (.iconst 1, 1) := by decide +kernel
theorem dX11_makes_341 : decode cX11_makes 341 = .ok (.istore_n 3, 1) := by decide +kernel
theorem dX11_makes_342 : decode cX11_makes 342 = .ok (.iload_n 3, 1) := by decide +kernel
theorem dX11_makes_343 : decode cX11_makes 343 = .ok (.aload_n 0, 1) := by decide +kernel
theorem dX11_makes_344 : decode cX11_makes 344 = .ok (.getfield 141, 3) := by decide +kernel
theorem dX11_makes_347 : decode cX11_makes 347 = .ok (.if_icmp .ge 87, 3) := by decide +kernel
theorem dX11_makes_350 : decode cX11_makes 350 = .ok (.aload_n 0, 1) := by decide +kernel
theorem dX11_makes_351 : decode cX11_makes 351 = .ok (.getfield 135, 3) := by decide +kernel
theorem dX11_makes_354 : decode cX11_makes 354 = .ok (.ifCond .ne 80, 3) := by decide +kernel
theorem dX11_makes_357 : decode cX11_makes 357 = .ok (.aload_n 0, 1) := by decide +kernel
theorem dX11_makes_358 : decode cX11_makes 358 = .ok (.getfield 47, 3) := by decide +kernel
theorem dX11_makes_361 : decode cX11_makes 361 = .ok (.iload_n 3, 1) := by decide +kernel
theorem dX11_makes_362 : decode cX11_makes 362 = .ok (.iaload, 1) := by decide +kernel
theorem dX11_makes_363 : decode cX11_makes 363 = .ok (.istore 4, 2) := by decide +kernel
theorem dX11_makes_365 : decode cX11_makes 365 = .ok (.iload_n 3, 1) := by decide +kernel
theorem dX11_makes_366 : decode cX11_makes 366 = .ok (.istore 5, 2) := by decide +kernel
theorem dX11_makes_368 : decode cX11_makes 368 = .ok (.iload 5, 2) := by decide +kernel
theorem dX11_makes_370 : decode cX11_makes 370 = .ok (.ifCond .le 49, 3) := by decide +kernel
theorem dX11_makes_373 : decode cX11_makes 373 = .ok (.aload_n 0, 1) := by decide +kernel
theorem dX11_makes_374 : decode cX11_makes 374 = .ok (.getfield 44, 3) := by decide +kernel
theorem dX11_makes_377 : decode cX11_makes 377 = .ok (.aload_n 0, 1) := by decide +kernel
theorem dX11_makes_378 : decode cX11_makes 378 = .ok (.getfield 47, 3) := by decide +kernel
theorem dX11_makes_381 : decode cX11_makes 381 = .ok (.iload 5, 2) := by decide +kernel
theorem dX11_makes_383 : decode cX11_makes 383 = .ok (.iconst 1, 1) := by decide +kernel
theorem dX11_makes_384 : decode cX11_makes 384 = .ok (.isub, 1) := by decide +kernel
theorem dX11_makes_385 : decode cX11_makes 385 = .ok (.iaload, 1) := by decide +kernel
theorem dX11_makes_386 : decode cX11_makes 386 = .ok (.iaload, 1) := by decide +kernel
theorem dX11_makes_387 : decode cX11_makes 387 = .ok (.aload_n 0, 1) := by decide +kernel
theorem dX11_makes_388 : decode cX11_makes 388 = .ok (.getfield 44, 3) := by decide +kernel
theorem dX11_makes_391 : decode cX11_makes 391 = .ok (.iload 4, 2) := by decide +kernel
theorem dX11_makes_393 : decode cX11_makes 393 = .ok (.iaload, 1) := by decide +kernel
theorem dX11_makes_394 : decode cX11_makes 394 = .ok (.if_icmp .le 25, 3) := by decide +kernel
theorem dX11_makes_397 : decode cX11_makes 397 = .ok (.aload_n 0, 1) := by decide +kernel
theorem dX11_makes_398 : decode cX11_makes 398 = .ok (.getfield 47, 3) := by decide +kernel
theorem dX11_makes_401 : decode cX11_makes 401 = .ok (.iload 5, 2) := by decide +kernel
theorem dX11_makes_403 : decode cX11_makes 403 = .ok (.aload_n 0, 1) := by decide +kernel
theorem dX11_makes_404 : decode cX11_makes 404 = .ok (.getfield 47, 3) := by decide +kernel
theorem dX11_makes_407 : decode cX11_makes 407 = .ok (.iload 5, 2) := by decide +kernel
theorem dX11_makes_409 : decode cX11_makes 409 = .ok (.iconst 1, 1) := by decide +kernel
theorem dX11_makes_410 : decode cX11_makes 410 = .ok (.isub, 1) := by decide +kernel
theorem dX11_makes_411 : decode cX11_makes 411 = .ok (.iaload, 1) := by decide +kernel
theorem dX11_makes_412 : decode cX11_makes 412 = .ok (.iastore, 1) := by decide +kernel
theorem dX11_makes_413 : decode cX11_makes 413 = .ok (.iinc 5 (-1), 3) := by decide +kernel
theorem dX11_makes_416 : decode cX11_makes 416 = .ok (.goto (-48), 3) := by decide +kernel
theorem dX11_makes_419 : decode cX11_makes 419 = .ok (.aload_n 0, 1) := by decide +kernel
theorem dX11_makes_420 : decode cX11_makes 420 = .ok (.getfield 47, 3) := by decide +kernel
theorem dX11_makes_423 : decode cX11_makes 423 = .ok (.iload 5, 2) := by decide +kernel
theorem dX11_makes_425 : decode cX11_makes 425 = .ok (.iload 4, 2) := by decide +kernel
theorem dX11_makes_427 : decode cX11_makes 427 = .ok (.iastore, 1) := by decide +kernel
theorem dX11_makes_428 : decode cX11_makes 428 = .ok (.iinc 3 1, 3) := by decide +kernel
theorem dX11_makes_431 : decode cX11_makes 431 = .ok (.goto (-89), 3) := by decide +kernel
theorem dX11_makes_434 : decode cX11_makes 434 = .ok (.return_, 1) := by decide +kernel
theorem dX11_planEstimate_0 : decode cX11_planEstimate 0 = .ok (.bipush 40, 2) := by decide +kernel
theorem dX11_planEstimate_2 : decode cX11_planEstimate 2 = .ok (.istore_n 1, 1) := by decide +kernel
theorem dX11_planEstimate_3 : decode cX11_planEstimate 3 = .ok (.iconst 0, 1) := by decide +kernel
theorem dX11_planEstimate_4 : decode cX11_planEstimate 4 = .ok (.istore_n 2, 1) := by decide +kernel
theorem dX11_planEstimate_5 : decode cX11_planEstimate 5 = .ok (.iconst 0, 1) := by decide +kernel
theorem dX11_planEstimate_6 : decode cX11_planEstimate 6 = .ok (.istore_n 3, 1) := by decide +kernel
theorem dX11_planEstimate_7 : decode cX11_planEstimate 7 = .ok (.iload_n 3, 1) := by decide +kernel
theorem dX11_planEstimate_8 : decode cX11_planEstimate 8 = .ok (.aload_n 0, 1) := by decide +kernel
theorem dX11_planEstimate_9 : decode cX11_planEstimate 9 = .ok (.getfield 141, 3) := by decide +kernel
theorem dX11_planEstimate_12 : decode cX11_planEstimate 12 = .ok (.if_icmp .ge 54, 3) := by decide +kernel
theorem dX11_planEstimate_15 : decode cX11_planEstimate 15 = .ok (.aload_n 0, 1) := by decide +kernel
theorem dX11_planEstimate_16 : decode cX11_planEstimate 16 = .ok (.getfield 44, 3) := by decide +kernel
theorem dX11_planEstimate_19 : decode cX11_planEstimate 19 = .ok (.aload_n 0, 1) := by decide +kernel
theorem dX11_planEstimate_20 : decode cX11_planEstimate 20 = .ok (.getfield 47, 3) := by decide +kernel
theorem dX11_planEstimate_23 : decode cX11_planEstimate 23 = .ok (.iload_n 3, 1) := by decide +kernel
theorem dX11_planEstimate_24 : decode cX11_planEstimate 24 = .ok (.iaload, 1) := by decide +kernel
theorem dX11_planEstimate_25 : decode cX11_planEstimate 25 = .ok (.iaload, 1) := by decide +kernel
theorem dX11_planEstimate_26 : decode cX11_planEstimate 26 = .ok (.iload_n 1, 1) := by decide +kernel
theorem dX11_planEstimate_27 : decode cX11_planEstimate 27 = .ok (.if_icmp .ge 17, 3) := by decide +kernel
theorem dX11_planEstimate_30 : decode cX11_planEstimate 30 = .ok (.aload_n 0, 1) := by decide +kernel
theorem dX11_planEstimate_31 : decode cX11_planEstimate 31 = .ok (.getfield 44, 3) := by decide +kernel
theorem dX11_planEstimate_34 : decode cX11_planEstimate 34 = .ok (.aload_n 0, 1) := by decide +kernel
theorem dX11_planEstimate_35 : decode cX11_planEstimate 35 = .ok (.getfield 47, 3) := by decide +kernel
theorem dX11_planEstimate_38 : decode cX11_planEstimate 38 = .ok (.iload_n 3, 1) := by decide +kernel
theorem dX11_planEstimate_39 : decode cX11_planEstimate 39 = .ok (.iaload, 1) := by decide +kernel
theorem dX11_planEstimate_40 : decode cX11_planEstimate 40 = .ok (.iaload, 1) := by decide +kernel
theorem dX11_planEstimate_41 : decode cX11_planEstimate 41 = .ok (.goto 4, 3) := by decide +kernel
theorem dX11_planEstimate_44 : decode cX11_planEstimate 44 = .ok (.iload_n 1, 1) := by decide +kernel
theorem dX11_planEstimate_45 : decode cX11_planEstimate 45 = .ok (.istore_n 1, 1) := by decide +kernel
theorem dX11_planEstimate_46 : decode cX11_planEstimate 46 = .ok (.iload_n 2, 1) := by decide +kernel
theorem dX11_planEstimate_47 : decode cX11_planEstimate 47 = .ok (.aload_n 0, 1) := by decide +kernel
theorem dX11_planEstimate_48 : decode cX11_planEstimate 48 = .ok (.getfield 44, 3) := by decide +kernel
theorem dX11_planEstimate_51 : decode cX11_planEstimate 51 = .ok (.aload_n 0, 1) := by decide +kernel
theorem dX11_planEstimate_52 : decode cX11_planEstimate 52 = .ok (.getfield 47, 3) := by decide +kernel
theorem dX11_planEstimate_55 : decode cX11_planEstimate 55 = .ok (.iload_n 3, 1) := by decide +kernel
theorem dX11_planEstimate_56 : decode cX11_planEstimate 56 = .ok (.iaload, 1) := by decide +kernel
theorem dX11_planEstimate_57 : decode cX11_planEstimate 57 = .ok (.iaload, 1) := by decide +kernel
theorem dX11_planEstimate_58 : decode cX11_planEstimate 58 = .ok (.iadd, 1) := by decide +kernel
theorem dX11_planEstimate_59 : decode cX11_planEstimate 59 = .ok (.istore_n 2, 1) := by decide +kernel
theorem dX11_planEstimate_60 : decode cX11_planEstimate 60 = .ok (.iinc 3 1, 3) := by decide +kernel
theorem dX11_planEstimate_63 : decode cX11_planEstimate 63 = .ok (.goto (-56), 3) := by decide +kernel
theorem dX11_planEstimate_66 : decode cX11_planEstimate 66 = .ok (.aload_n 0, 1) := by decide +kernel
theorem dX11_planEstimate_67 : decode cX11_planEstimate 67 = .ok (.aload_n 0, 1) := by decide +kernel
theorem dX11_planEstimate_68 : decode cX11_planEstimate 68 = .ok (.getfield 135, 3) := by decide +kernel
theorem dX11_planEstimate_71 : decode cX11_planEstimate 71 = .ok (.aload_n 0, 1) := by decide +kernel
theorem dX11_planEstimate_72 : decode cX11_planEstimate 72 = .ok (.getfield 138, 3) := by decide +kernel
theorem dX11_planEstimate_75 : decode cX11_planEstimate 75 = .ok (.iload_n 1, 1) := by decide +kernel
theorem dX11_planEstimate_76 : decode cX11_planEstimate 76 = .ok (.iload_n 2, 1) := by decide +kernel
theorem dX11_planEstimate_77 : decode cX11_planEstimate 77 = .ok (.invokevirtual 131, 3) := by decide +kernel
theorem dX11_planEstimate_80 : decode cX11_planEstimate 80 = .ok (.ireturn, 1) := by decide +kernel
theorem dX11_planKind_0 : decode cX11_planKind 0 = .ok (.aload_n 0, 1) := by decide +kernel
theorem dX11_planKind_1 : decode cX11_planKind 1 = .ok (.iconst 0, 1) := by decide +kernel
theorem dX11_planKind_2 : decode cX11_planKind 2 = .ok (.putfield 74, 3) := by decide +kernel
theorem dX11_planKind_5 : decode cX11_planKind 5 = .ok (.aload_n 0, 1) := by decide +kernel
theorem dX11_planKind_6 : decode cX11_planKind 6 = .ok (.invokevirtual 156, 3) := by decide +kernel
theorem dX11_planKind_9 : decode cX11_planKind 9 = .ok (.aload_n 0, 1) := by decide +kernel
theorem dX11_planKind_10 : decode cX11_planKind 10 = .ok (.getfield 135, 3) := by decide +kernel
theorem dX11_planKind_13 : decode cX11_planKind 13 = .ok (.ireturn, 1) := by decide +kernel
theorem dX11_planNeed_0 : decode cX11_planNeed 0 = .ok (.aload_n 0, 1) := by decide +kernel
theorem dX11_planNeed_1 : decode cX11_planNeed 1 = .ok (.iconst 0, 1) := by decide +kernel
theorem dX11_planNeed_2 : decode cX11_planNeed 2 = .ok (.putfield 74, 3) := by decide +kernel
theorem dX11_planNeed_5 : decode cX11_planNeed 5 = .ok (.aload_n 0, 1) := by decide +kernel
theorem dX11_planNeed_6 : decode cX11_planNeed 6 = .ok (.invokevirtual 156, 3) := by decide +kernel
theorem dX11_planNeed_9 : decode cX11_planNeed 9 = .ok (.aload_n 0, 1) := by decide +kernel
theorem dX11_planNeed_10 : decode cX11_planNeed 10 = .ok (.getfield 138, 3) := by decide +kernel
theorem dX11_planNeed_13 : decode cX11_planNeed 13 = .ok (.ireturn, 1) := by decide +kernel
theorem dX11_planSize_0 : decode cX11_planSize 0 = .ok (.aload_n 0, 1) := by decide +kernel
theorem dX11_planSize_1 : decode cX11_planSize 1 = .ok (.iconst 0, 1) := by decide +kernel
theorem dX11_planSize_2 : decode cX11_planSize 2 = .ok (.putfield 74, 3) := by decide +kernel
theorem dX11_planSize_5 : decode cX11_planSize 5 = .ok (.aload_n 0, 1) := by decide +kernel
theorem dX11_planSize_6 : decode cX11_planSize 6 = .ok (.invokevirtual 156, 3) := by decide +kernel
theorem dX11_planSize_9 : decode cX11_planSize 9 = .ok (.aload_n 0, 1) := by decide +kernel
theorem dX11_planSize_10 : decode cX11_planSize 10 = .ok (.getfield 141, 3) := by decide +kernel
theorem dX11_planSize_13 : decode cX11_planSize 13 = .ok (.ireturn, 1) := by decide +kernel
theorem dX11_estimate_0 : decode cX11_estimate 0 = .ok (.aload_n 0, 1) := by decide +kernel
theorem dX11_estimate_1 : decode cX11_estimate 1 = .ok (.iconst 0, 1) := by decide +kernel
theorem dX11_estimate_2 : decode cX11_estimate 2 = .ok (.putfield 74, 3) := by decide +kernel
theorem dX11_estimate_5 : decode cX11_estimate 5 = .ok (.aload_n 0, 1) := by decide +kernel
theorem dX11_estimate_6 : decode cX11_estimate 6 = .ok (.invokevirtual 156, 3) := by decide +kernel
theorem dX11_estimate_9 : decode cX11_estimate 9 = .ok (.aload_n 0, 1) := by decide +kernel
theorem dX11_estimate_10 : decode cX11_estimate 10 = .ok (.invokevirtual 159, 3) := by decide +kernel
theorem dX11_estimate_13 : decode cX11_estimate 13 = .ok (.ireturn, 1) := by decide +kernel
theorem dX11_isPlace_0 : decode cX11_isPlace 0 = .ok (.aload_n 0, 1) := by decide +kernel
theorem dX11_isPlace_1 : decode cX11_isPlace 1 = .ok (.invokevirtual 156, 3) := by decide +kernel
theorem dX11_isPlace_4 : decode cX11_isPlace 4 = .ok (.aload_n 0, 1) := by decide +kernel
theorem dX11_isPlace_5 : decode cX11_isPlace 5 = .ok (.iload_n 1, 1) := by decide +kernel
theorem dX11_isPlace_6 : decode cX11_isPlace 6 = .ok (.iconst 0, 1) := by decide +kernel
theorem dX11_isPlace_7 : decode cX11_isPlace 7 = .ok (.aload_n 0, 1) := by decide +kernel
theorem dX11_isPlace_8 : decode cX11_isPlace 8 = .ok (.getfield 141, 3) := by decide +kernel
theorem dX11_isPlace_11 : decode cX11_isPlace 11 = .ok (.iconst 1, 1) := by decide +kernel
theorem dX11_isPlace_12 : decode cX11_isPlace 12 = .ok (.isub, 1) := by decide +kernel
theorem dX11_isPlace_13 : decode cX11_isPlace 13 = .ok (.invokestatic 78, 3) := by decide +kernel
theorem dX11_isPlace_16 : decode cX11_isPlace 16 = .ok (.iconst 1, 1) := by decide +kernel
theorem dX11_isPlace_17 : decode cX11_isPlace 17 = .ok (.iconst 1, 1) := by decide +kernel
theorem dX11_isPlace_18 : decode cX11_isPlace 18 = .ok (.invokevirtual 86, 3) := by decide +kernel
theorem dX11_isPlace_21 : decode cX11_isPlace 21 = .ok (.ireturn, 1) := by decide +kernel
theorem dX11_clauseAt_0 : decode cX11_clauseAt 0 = .ok (.aload_n 0, 1) := by decide +kernel
theorem dX11_clauseAt_1 : decode cX11_clauseAt 1 = .ok (.iload_n 1, 1) := by decide +kernel
theorem dX11_clauseAt_2 : decode cX11_clauseAt 2 = .ok (.invokevirtual 162, 3) := by decide +kernel
theorem dX11_clauseAt_5 : decode cX11_clauseAt 5 = .ok (.ifCond .eq 12, 3) := by decide +kernel
theorem dX11_clauseAt_8 : decode cX11_clauseAt 8 = .ok (.aload_n 0, 1) := by decide +kernel
theorem dX11_clauseAt_9 : decode cX11_clauseAt 9 = .ok (.getfield 47, 3) := by decide +kernel
theorem dX11_clauseAt_12 : decode cX11_clauseAt 12 = .ok (.iload_n 1, 1) := by decide +kernel
theorem dX11_clauseAt_13 : decode cX11_clauseAt 13 = .ok (.iaload, 1) := by decide +kernel
theorem dX11_clauseAt_14 : decode cX11_clauseAt 14 = .ok (.goto 4, 3) := by decide +kernel
theorem dX11_clauseAt_17 : decode cX11_clauseAt 17 = .ok (.iconst 0, 1) := by decide +kernel
theorem dX11_clauseAt_18 : decode cX11_clauseAt 18 = .ok (.ireturn, 1) := by decide +kernel
theorem dX11_kindAt_0 : decode cX11_kindAt 0 = .ok (.aload_n 0, 1) := by decide +kernel
theorem dX11_kindAt_1 : decode cX11_kindAt 1 = .ok (.iload_n 1, 1) := by decide +kernel
theorem dX11_kindAt_2 : decode cX11_kindAt 2 = .ok (.invokevirtual 162, 3) := by decide +kernel
theorem dX11_kindAt_5 : decode cX11_kindAt 5 = .ok (.ifCond .eq 17, 3) := by decide +kernel
theorem dX11_kindAt_8 : decode cX11_kindAt 8 = .ok (.aload_n 0, 1) := by decide +kernel
theorem dX11_kindAt_9 : decode cX11_kindAt 9 = .ok (.getfield 32, 3) := by decide +kernel
theorem dX11_kindAt_12 : decode cX11_kindAt 12 = .ok (.aload_n 0, 1) := by decide +kernel
theorem dX11_kindAt_13 : decode cX11_kindAt 13 = .ok (.getfield 47, 3) := by decide +kernel
theorem dX11_kindAt_16 : decode cX11_kindAt 16 = .ok (.iload_n 1, 1) := by decide +kernel
theorem dX11_kindAt_17 : decode cX11_kindAt 17 = .ok (.iaload, 1) := by decide +kernel
theorem dX11_kindAt_18 : decode cX11_kindAt 18 = .ok (.iaload, 1) := by decide +kernel
theorem dX11_kindAt_19 : decode cX11_kindAt 19 = .ok (.goto 4, 3) := by decide +kernel
theorem dX11_kindAt_22 : decode cX11_kindAt 22 = .ok (.iconst 0, 1) := by decide +kernel
theorem dX11_kindAt_23 : decode cX11_kindAt 23 = .ok (.ireturn, 1) := by decide +kernel
theorem dX11_estimateAt_0 : decode cX11_estimateAt 0 = .ok (.aload_n 0, 1) := by decide +kernel
theorem dX11_estimateAt_1 : decode cX11_estimateAt 1 = .ok (.iload_n 1, 1) := by decide +kernel
theorem dX11_estimateAt_2 : decode cX11_estimateAt 2 = .ok (.invokevirtual 162, 3) := by decide +kernel
theorem dX11_estimateAt_5 : decode cX11_estimateAt 5 = .ok (.ifCond .eq 17, 3) := by decide +kernel
theorem dX11_estimateAt_8 : decode cX11_estimateAt 8 = .ok (.aload_n 0, 1) := by decide +kernel
theorem dX11_estimateAt_9 : decode cX11_estimateAt 9 = .ok (.getfield 44, 3) := by decide +kernel
theorem dX11_estimateAt_12 : decode cX11_estimateAt 12 = .ok (.aload_n 0, 1) := by decide +kernel
theorem dX11_estimateAt_13 : decode cX11_estimateAt 13 = .ok (.getfield 47, 3) := by decide +kernel
theorem dX11_estimateAt_16 : decode cX11_estimateAt 16 = .ok (.iload_n 1, 1) := by decide +kernel
theorem dX11_estimateAt_17 : decode cX11_estimateAt 17 = .ok (.iaload, 1) := by decide +kernel
theorem dX11_estimateAt_18 : decode cX11_estimateAt 18 = .ok (.iaload, 1) := by decide +kernel
theorem dX11_estimateAt_19 : decode cX11_estimateAt 19 = .ok (.goto 4, 3) := by decide +kernel
theorem dX11_estimateAt_22 : decode cX11_estimateAt 22 = .ok (.iconst 0, 1) := by decide +kernel
theorem dX11_estimateAt_23 : decode cX11_estimateAt 23 = .ok (.ireturn, 1) := by decide +kernel
theorem dX11_literalAt_0 : decode cX11_literalAt 0 = .ok (.aload_n 0, 1) := by decide +kernel
theorem dX11_literalAt_1 : decode cX11_literalAt 1 = .ok (.iload_n 1, 1) := by decide +kernel
theorem dX11_literalAt_2 : decode cX11_literalAt 2 = .ok (.invokevirtual 162, 3) := by decide +kernel
theorem dX11_literalAt_5 : decode cX11_literalAt 5 = .ok (.ifCond .eq 28, 3) := by decide +kernel
theorem dX11_literalAt_8 : decode cX11_literalAt 8 = .ok (.iload_n 2, 1) := by decide +kernel
theorem dX11_literalAt_9 : decode cX11_literalAt 9 = .ok (.iconst 0, 1) := by decide +kernel
theorem dX11_literalAt_10 : decode cX11_literalAt 10 = .ok (.aload_n 0, 1) := by decide +kernel
theorem dX11_literalAt_11 : decode cX11_literalAt 11 = .ok (.getfield 38, 3) := by decide +kernel
theorem dX11_literalAt_14 : decode cX11_literalAt 14 = .ok (.aload_n 0, 1) := by decide +kernel
theorem dX11_literalAt_15 : decode cX11_literalAt 15 = .ok (.getfield 47, 3) := by decide +kernel
theorem dX11_literalAt_18 : decode cX11_literalAt 18 = .ok (.iload_n 1, 1) := by decide +kernel
theorem dX11_literalAt_19 : decode cX11_literalAt 19 = .ok (.iaload, 1) := by decide +kernel
theorem dX11_literalAt_20 : decode cX11_literalAt 20 = .ok (.iaload, 1) := by decide +kernel
theorem dX11_literalAt_21 : decode cX11_literalAt 21 = .ok (.iconst 1, 1) := by decide +kernel
theorem dX11_literalAt_22 : decode cX11_literalAt 22 = .ok (.isub, 1) := by decide +kernel
theorem dX11_literalAt_23 : decode cX11_literalAt 23 = .ok (.invokestatic 78, 3) := by decide +kernel
theorem dX11_literalAt_26 : decode cX11_literalAt 26 = .ok (.ifCond .eq 7, 3) := by decide +kernel
theorem dX11_literalAt_29 : decode cX11_literalAt 29 = .ok (.iconst 1, 1) := by decide +kernel
theorem dX11_literalAt_30 : decode cX11_literalAt 30 = .ok (.goto 4, 3) := by decide +kernel
theorem dX11_literalAt_33 : decode cX11_literalAt 33 = .ok (.iconst 0, 1) := by decide +kernel
theorem dX11_literalAt_34 : decode cX11_literalAt 34 = .ok (.istore_n 3, 1) := by decide +kernel
theorem dX11_literalAt_35 : decode cX11_literalAt 35 = .ok (.aload_n 0, 1) := by decide +kernel
