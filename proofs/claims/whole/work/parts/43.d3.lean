theorem dX11_init_0 : decode cX11_init 0 = .ok (.aload_n 0, 1) := by decide +kernel
theorem dX11_init_1 : decode cX11_init 1 = .ok (.invokespecial 1, 3) := by decide +kernel
theorem dX11_init_4 : decode cX11_init 4 = .ok (.aload_n 0, 1) := by decide +kernel
theorem dX11_init_5 : decode cX11_init 5 = .ok (.bipush 40, 2) := by decide +kernel
theorem dX11_init_7 : decode cX11_init 7 = .ok (.newarray .boolean, 2) := by decide +kernel
theorem dX11_init_9 : decode cX11_init 9 = .ok (.putfield 7, 3) := by decide +kernel
theorem dX11_init_12 : decode cX11_init 12 = .ok (.aload_n 0, 1) := by decide +kernel
theorem dX11_init_13 : decode cX11_init 13 = .ok (.bipush 40, 2) := by decide +kernel
theorem dX11_init_15 : decode cX11_init 15 = .ok (.newarray .int, 2) := by decide +kernel
theorem dX11_init_17 : decode cX11_init 17 = .ok (.putfield 13, 3) := by decide +kernel
theorem dX11_init_20 : decode cX11_init 20 = .ok (.aload_n 0, 1) := by decide +kernel
theorem dX11_init_21 : decode cX11_init 21 = .ok (.iconst 5, 1) := by decide +kernel
theorem dX11_init_22 : decode cX11_init 22 = .ok (.newarray .int, 2) := by decide +kernel
theorem dX11_init_24 : decode cX11_init 24 = .ok (.putfield 17, 3) := by decide +kernel
theorem dX11_init_27 : decode cX11_init 27 = .ok (.aload_n 0, 1) := by decide +kernel
theorem dX11_init_28 : decode cX11_init 28 = .ok (.iconst 5, 1) := by decide +kernel
theorem dX11_init_29 : decode cX11_init 29 = .ok (.newarray .int, 2) := by decide +kernel
theorem dX11_init_31 : decode cX11_init 31 = .ok (.putfield 20, 3) := by decide +kernel
theorem dX11_init_34 : decode cX11_init 34 = .ok (.aload_n 0, 1) := by decide +kernel
theorem dX11_init_35 : decode cX11_init 35 = .ok (.iconst 5, 1) := by decide +kernel
theorem dX11_init_36 : decode cX11_init 36 = .ok (.newarray .boolean, 2) := by decide +kernel
theorem dX11_init_38 : decode cX11_init 38 = .ok (.putfield 23, 3) := by decide +kernel
theorem dX11_init_41 : decode cX11_init 41 = .ok (.aload_n 0, 1) := by decide +kernel
theorem dX11_init_42 : decode cX11_init 42 = .ok (.iconst 5, 1) := by decide +kernel
theorem dX11_init_43 : decode cX11_init 43 = .ok (.newarray .int, 2) := by decide +kernel
theorem dX11_init_45 : decode cX11_init 45 = .ok (.putfield 26, 3) := by decide +kernel
theorem dX11_init_48 : decode cX11_init 48 = .ok (.aload_n 0, 1) := by decide +kernel
theorem dX11_init_49 : decode cX11_init 49 = .ok (.bipush 30, 2) := by decide +kernel
theorem dX11_init_51 : decode cX11_init 51 = .ok (.newarray .int, 2) := by decide +kernel
theorem dX11_init_53 : decode cX11_init 53 = .ok (.putfield 29, 3) := by decide +kernel
theorem dX11_init_56 : decode cX11_init 56 = .ok (.aload_n 0, 1) := by decide +kernel
theorem dX11_init_57 : decode cX11_init 57 = .ok (.iconst 5, 1) := by decide +kernel
theorem dX11_init_58 : decode cX11_init 58 = .ok (.newarray .int, 2) := by decide +kernel
theorem dX11_init_60 : decode cX11_init 60 = .ok (.putfield 32, 3) := by decide +kernel
theorem dX11_init_63 : decode cX11_init 63 = .ok (.aload_n 0, 1) := by decide +kernel
theorem dX11_init_64 : decode cX11_init 64 = .ok (.iconst 5, 1) := by decide +kernel
theorem dX11_init_65 : decode cX11_init 65 = .ok (.newarray .int, 2) := by decide +kernel
theorem dX11_init_67 : decode cX11_init 67 = .ok (.putfield 35, 3) := by decide +kernel
theorem dX11_init_70 : decode cX11_init 70 = .ok (.aload_n 0, 1) := by decide +kernel
theorem dX11_init_71 : decode cX11_init 71 = .ok (.iconst 5, 1) := by decide +kernel
theorem dX11_init_72 : decode cX11_init 72 = .ok (.newarray .int, 2) := by decide +kernel
theorem dX11_init_74 : decode cX11_init 74 = .ok (.putfield 38, 3) := by decide +kernel
theorem dX11_init_77 : decode cX11_init 77 = .ok (.aload_n 0, 1) := by decide +kernel
theorem dX11_init_78 : decode cX11_init 78 = .ok (.bipush 30, 2) := by decide +kernel
theorem dX11_init_80 : decode cX11_init 80 = .ok (.newarray .int, 2) := by decide +kernel
theorem dX11_init_82 : decode cX11_init 82 = .ok (.putfield 41, 3) := by decide +kernel
theorem dX11_init_85 : decode cX11_init 85 = .ok (.aload_n 0, 1) := by decide +kernel
theorem dX11_init_86 : decode cX11_init 86 = .ok (.iconst 5, 1) := by decide +kernel
theorem dX11_init_87 : decode cX11_init 87 = .ok (.newarray .int, 2) := by decide +kernel
theorem dX11_init_89 : decode cX11_init 89 = .ok (.putfield 44, 3) := by decide +kernel
theorem dX11_init_92 : decode cX11_init 92 = .ok (.aload_n 0, 1) := by decide +kernel
theorem dX11_init_93 : decode cX11_init 93 = .ok (.iconst 5, 1) := by decide +kernel
theorem dX11_init_94 : decode cX11_init 94 = .ok (.newarray .int, 2) := by decide +kernel
theorem dX11_init_96 : decode cX11_init 96 = .ok (.putfield 47, 3) := by decide +kernel
theorem dX11_init_99 : decode cX11_init 99 = .ok (.aload_n 0, 1) := by decide +kernel
theorem dX11_init_100 : decode cX11_init 100 = .ok (.bipush 40, 2) := by decide +kernel
theorem dX11_init_102 : decode cX11_init 102 = .ok (.newarray .boolean, 2) := by decide +kernel
theorem dX11_init_104 : decode cX11_init 104 = .ok (.putfield 50, 3) := by decide +kernel
theorem dX11_init_107 : decode cX11_init 107 = .ok (.aload_n 0, 1) := by decide +kernel
theorem dX11_init_108 : decode cX11_init 108 = .ok (.bipush 40, 2) := by decide +kernel
theorem dX11_init_110 : decode cX11_init 110 = .ok (.newarray .int, 2) := by decide +kernel
theorem dX11_init_112 : decode cX11_init 112 = .ok (.putfield 53, 3) := by decide +kernel
theorem dX11_init_115 : decode cX11_init 115 = .ok (.aload_n 0, 1) := by decide +kernel
theorem dX11_init_116 : decode cX11_init 116 = .ok (.iconst 5, 1) := by decide +kernel
theorem dX11_init_117 : decode cX11_init 117 = .ok (.newarray .int, 2) := by decide +kernel
theorem dX11_init_119 : decode cX11_init 119 = .ok (.putfield 56, 3) := by decide +kernel
theorem dX11_init_122 : decode cX11_init 122 = .ok (.aload_n 0, 1) := by decide +kernel
theorem dX11_init_123 : decode cX11_init 123 = .ok (.iconst 5, 1) := by decide +kernel
theorem dX11_init_124 : decode cX11_init 124 = .ok (.newarray .int, 2) := by decide +kernel
theorem dX11_init_126 : decode cX11_init 126 = .ok (.putfield 59, 3) := by decide +kernel
theorem dX11_init_129 : decode cX11_init 129 = .ok (.aload_n 0, 1) := by decide +kernel
theorem dX11_init_130 : decode cX11_init 130 = .ok (.iconst 5, 1) := by decide +kernel
theorem dX11_init_131 : decode cX11_init 131 = .ok (.newarray .int, 2) := by decide +kernel
theorem dX11_init_133 : decode cX11_init 133 = .ok (.putfield 62, 3) := by decide +kernel
theorem dX11_init_136 : decode cX11_init 136 = .ok (.aload_n 0, 1) := by decide +kernel
theorem dX11_init_137 : decode cX11_init 137 = .ok (.bipush 30, 2) := by decide +kernel
theorem dX11_init_139 : decode cX11_init 139 = .ok (.newarray .int, 2) := by decide +kernel
theorem dX11_init_141 : decode cX11_init 141 = .ok (.putfield 65, 3) := by decide +kernel
theorem dX11_init_144 : decode cX11_init 144 = .ok (.aload_n 0, 1) := by decide +kernel
theorem dX11_init_145 : decode cX11_init 145 = .ok (.bipush 30, 2) := by decide +kernel
theorem dX11_init_147 : decode cX11_init 147 = .ok (.newarray .int, 2) := by decide +kernel
theorem dX11_init_149 : decode cX11_init 149 = .ok (.putfield 68, 3) := by decide +kernel
theorem dX11_init_152 : decode cX11_init 152 = .ok (.aload_n 0, 1) := by decide +kernel
theorem dX11_init_153 : decode cX11_init 153 = .ok (.iconst 5, 1) := by decide +kernel
theorem dX11_init_154 : decode cX11_init 154 = .ok (.newarray .int, 2) := by decide +kernel
theorem dX11_init_156 : decode cX11_init 156 = .ok (.putfield 71, 3) := by decide +kernel
theorem dX11_init_159 : decode cX11_init 159 = .ok (.return_, 1) := by decide +kernel
theorem dX11_thrown_0 : decode cX11_thrown 0 = .ok (.aload_n 0, 1) := by decide +kernel
theorem dX11_thrown_1 : decode cX11_thrown 1 = .ok (.getfield 74, 3) := by decide +kernel
theorem dX11_thrown_4 : decode cX11_thrown 4 = .ok (.ireturn, 1) := by decide +kernel
theorem dX11_in_0 : decode cX11_in 0 = .ok (.iload_n 0, 1) := by decide +kernel
theorem dX11_in_1 : decode cX11_in 1 = .ok (.iload_n 1, 1) := by decide +kernel
theorem dX11_in_2 : decode cX11_in 2 = .ok (.if_icmp .lt 12, 3) := by decide +kernel
theorem dX11_in_5 : decode cX11_in 5 = .ok (.iload_n 0, 1) := by decide +kernel
theorem dX11_in_6 : decode cX11_in 6 = .ok (.iload_n 2, 1) := by decide +kernel
theorem dX11_in_7 : decode cX11_in 7 = .ok (.if_icmp .gt 7, 3) := by decide +kernel
theorem dX11_in_10 : decode cX11_in 10 = .ok (.iconst 1, 1) := by decide +kernel
theorem dX11_in_11 : decode cX11_in 11 = .ok (.goto 4, 3) := by decide +kernel
theorem dX11_in_14 : decode cX11_in 14 = .ok (.iconst 0, 1) := by decide +kernel
theorem dX11_in_15 : decode cX11_in 15 = .ok (.ireturn, 1) := by decide +kernel
theorem dX11_goes_0 : decode cX11_goes 0 = .ok (.aload_n 0, 1) := by decide +kernel
theorem dX11_goes_1 : decode cX11_goes 1 = .ok (.iload_n 1, 1) := by decide +kernel
theorem dX11_goes_2 : decode cX11_goes 2 = .ok (.ifCond .ne 7, 3) := by decide +kernel
theorem dX11_goes_5 : decode cX11_goes 5 = .ok (.iconst 1, 1) := by decide +kernel
theorem dX11_goes_6 : decode cX11_goes 6 = .ok (.goto 20, 3) := by decide +kernel
theorem dX11_goes_9 : decode cX11_goes 9 = .ok (.iload_n 2, 1) := by decide +kernel
theorem dX11_goes_10 : decode cX11_goes 10 = .ok (.ifCond .ne 7, 3) := by decide +kernel
theorem dX11_goes_13 : decode cX11_goes 13 = .ok (.iconst 2, 1) := by decide +kernel
theorem dX11_goes_14 : decode cX11_goes 14 = .ok (.goto 12, 3) := by decide +kernel
theorem dX11_goes_17 : decode cX11_goes 17 = .ok (.iload_n 3, 1) := by decide +kernel
theorem dX11_goes_18 : decode cX11_goes 18 = .ok (.ifCond .eq 7, 3) := by decide +kernel
theorem dX11_goes_21 : decode cX11_goes 21 = .ok (.iconst 0, 1) := by decide +kernel
theorem dX11_goes_22 : decode cX11_goes 22 = .ok (.goto 4, 3) := by decide +kernel
theorem dX11_goes_25 : decode cX11_goes 25 = .ok (.iconst 3, 1) := by decide +kernel
theorem dX11_goes_26 : decode cX11_goes 26 = .ok (.putfield 74, 3) := by decide +kernel
theorem dX11_goes_29 : decode cX11_goes 29 = .ok (.aload_n 0, 1) := by decide +kernel
theorem dX11_goes_30 : decode cX11_goes 30 = .ok (.getfield 74, 3) := by decide +kernel
theorem dX11_goes_33 : decode cX11_goes 33 = .ok (.ifCond .ne 7, 3) := by decide +kernel
theorem dX11_goes_36 : decode cX11_goes 36 = .ok (.iconst 1, 1) := by decide +kernel
theorem dX11_goes_37 : decode cX11_goes 37 = .ok (.goto 4, 3) := by decide +kernel
theorem dX11_goes_40 : decode cX11_goes 40 = .ok (.iconst 0, 1) := by decide +kernel
theorem dX11_goes_41 : decode cX11_goes 41 = .ok (.ireturn, 1) := by decide +kernel
theorem dX11_isDocument_0 : decode cX11_isDocument 0 = .ok (.iload_n 0, 1) := by decide +kernel
theorem dX11_isDocument_1 : decode cX11_isDocument 1 = .ok (.iconst 0, 1) := by decide +kernel
theorem dX11_isDocument_2 : decode cX11_isDocument 2 = .ok (.bipush 39, 2) := by decide +kernel
theorem dX11_isDocument_4 : decode cX11_isDocument 4 = .ok (.invokestatic 78, 3) := by decide +kernel
theorem dX11_isDocument_7 : decode cX11_isDocument 7 = .ok (.ireturn, 1) := by decide +kernel
theorem dX11_put_0 : decode cX11_put 0 = .ok (.aload_n 0, 1) := by decide +kernel
theorem dX11_put_1 : decode cX11_put 1 = .ok (.iload_n 1, 1) := by decide +kernel
theorem dX11_put_2 : decode cX11_put 2 = .ok (.invokestatic 82, 3) := by decide +kernel
theorem dX11_put_5 : decode cX11_put 5 = .ok (.iload_n 2, 1) := by decide +kernel
theorem dX11_put_6 : decode cX11_put 6 = .ok (.iconst 0, 1) := by decide +kernel
theorem dX11_put_7 : decode cX11_put 7 = .ok (.sipush 255, 3) := by decide +kernel
theorem dX11_put_10 : decode cX11_put 10 = .ok (.invokestatic 78, 3) := by decide +kernel
theorem dX11_put_13 : decode cX11_put 13 = .ok (.iconst 1, 1) := by decide +kernel
theorem dX11_put_14 : decode cX11_put 14 = .ok (.invokevirtual 86, 3) := by decide +kernel
theorem dX11_put_17 : decode cX11_put 17 = .ok (.ifCond .ne 5, 3) := by decide +kernel
theorem dX11_put_20 : decode cX11_put 20 = .ok (.iconst 0, 1) := by decide +kernel
theorem dX11_put_21 : decode cX11_put 21 = .ok (.ireturn, 1) := by decide +kernel
theorem dX11_put_22 : decode cX11_put 22 = .ok (.aload_n 0, 1) := by decide +kernel
theorem dX11_put_23 : decode cX11_put 23 = .ok (.getfield 7, 3) := by decide +kernel
theorem dX11_put_26 : decode cX11_put 26 = .ok (.iload_n 1, 1) := by decide +kernel
theorem dX11_put_27 : decode cX11_put 27 = .ok (.baload, 1) := by decide +kernel
theorem dX11_put_28 : decode cX11_put 28 = .ok (.istore_n 3, 1) := by decide +kernel
theorem dX11_put_29 : decode cX11_put 29 = .ok (.aload_n 0, 1) := by decide +kernel
theorem dX11_put_30 : decode cX11_put 30 = .ok (.getfield 7, 3) := by decide +kernel
theorem dX11_put_33 : decode cX11_put 33 = .ok (.iload_n 1, 1) := by decide +kernel
theorem dX11_put_34 : decode cX11_put 34 = .ok (.iconst 1, 1) := by decide +kernel
theorem dX11_put_35 : decode cX11_put 35 = .ok (.bastore, 1) := by decide +kernel
theorem dX11_put_36 : decode cX11_put 36 = .ok (.aload_n 0, 1) := by decide +kernel
theorem dX11_put_37 : decode cX11_put 37 = .ok (.getfield 13, 3) := by decide +kernel
theorem dX11_put_40 : decode cX11_put 40 = .ok (.iload_n 1, 1) := by decide +kernel
theorem dX11_put_41 : decode cX11_put 41 = .ok (.iload_n 2, 1) := by decide +kernel
theorem dX11_put_42 : decode cX11_put 42 = .ok (.iastore, 1) := by decide +kernel
theorem dX11_put_43 : decode cX11_put 43 = .ok (.iload_n 3, 1) := by decide +kernel
theorem dX11_put_44 : decode cX11_put 44 = .ok (.ireturn, 1) := by decide +kernel
theorem dX11_drop_0 : decode cX11_drop 0 = .ok (.aload_n 0, 1) := by decide +kernel
theorem dX11_drop_1 : decode cX11_drop 1 = .ok (.iload_n 1, 1) := by decide +kernel
theorem dX11_drop_2 : decode cX11_drop 2 = .ok (.invokestatic 82, 3) := by decide +kernel
theorem dX11_drop_5 : decode cX11_drop 5 = .ok (.iconst 1, 1) := by decide +kernel
theorem dX11_drop_6 : decode cX11_drop 6 = .ok (.iconst 1, 1) := by decide +kernel
theorem dX11_drop_7 : decode cX11_drop 7 = .ok (.invokevirtual 86, 3) := by decide +kernel
theorem dX11_drop_10 : decode cX11_drop 10 = .ok (.ifCond .ne 5, 3) := by decide +kernel
theorem dX11_drop_13 : decode cX11_drop 13 = .ok (.iconst 0, 1) := by decide +kernel
theorem dX11_drop_14 : decode cX11_drop 14 = .ok (.ireturn, 1) := by decide +kernel
theorem dX11_drop_15 : decode cX11_drop 15 = .ok (.aload_n 0, 1) := by decide +kernel
theorem dX11_drop_16 : decode cX11_drop 16 = .ok (.getfield 7, 3) := by decide +kernel
theorem dX11_drop_19 : decode cX11_drop 19 = .ok (.iload_n 1, 1) := by decide +kernel
theorem dX11_drop_20 : decode cX11_drop 20 = .ok (.baload, 1) := by decide +kernel
theorem dX11_drop_21 : decode cX11_drop 21 = .ok (.istore_n 2, 1) := by decide +kernel
theorem dX11_drop_22 : decode cX11_drop 22 = .ok (.aload_n 0, 1) := by decide +kernel
theorem dX11_drop_23 : decode cX11_drop 23 = .ok (.getfield 7, 3) := by decide +kernel
theorem dX11_drop_26 : decode cX11_drop 26 = .ok (.iload_n 1, 1) := by decide +kernel
theorem dX11_drop_27 : decode cX11_drop 27 = .ok (.iconst 0, 1) := by decide +kernel
theorem dX11_drop_28 : decode cX11_drop 28 = .ok (.bastore, 1) := by decide +kernel
theorem dX11_drop_29 : decode cX11_drop 29 = .ok (.iload_n 2, 1) := by decide +kernel
theorem dX11_drop_30 : decode cX11_drop 30 = .ok (.ireturn, 1) := by decide +kernel
theorem dX11_many_0 : decode cX11_many 0 = .ok (.iconst 0, 1) := by decide +kernel
theorem dX11_many_1 : decode cX11_many 1 = .ok (.istore_n 1, 1) := by decide +kernel
theorem dX11_many_2 : decode cX11_many 2 = .ok (.iconst 0, 1) := by decide +kernel
theorem dX11_many_3 : decode cX11_many 3 = .ok (.istore_n 2, 1) := by decide +kernel
theorem dX11_many_4 : decode cX11_many 4 = .ok (.iload_n 2, 1) := by decide +kernel
theorem dX11_many_5 : decode cX11_many 5 = .ok (.bipush 40, 2) := by decide +kernel
theorem dX11_many_7 : decode cX11_many 7 = .ok (.if_icmp .ge 26, 3) := by decide +kernel
theorem dX11_many_10 : decode cX11_many 10 = .ok (.iload_n 1, 1) := by decide +kernel
theorem dX11_many_11 : decode cX11_many 11 = .ok (.aload_n 0, 1) := by decide +kernel
theorem dX11_many_12 : decode cX11_many 12 = .ok (.getfield 7, 3) := by decide +kernel
theorem dX11_many_15 : decode cX11_many 15 = .ok (.iload_n 2, 1) := by decide +kernel
theorem dX11_many_16 : decode cX11_many 16 = .ok (.baload, 1) := by decide +kernel
theorem dX11_many_17 : decode cX11_many 17 = .ok (.ifCond .eq 7, 3) := by decide +kernel
theorem dX11_many_20 : decode cX11_many 20 = .ok (.iconst 1, 1) := by decide +kernel
theorem dX11_many_21 : decode cX11_many 21 = .ok (.goto 4, 3) := by decide +kernel
theorem dX11_many_24 : decode cX11_many 24 = .ok (.iconst 0, 1) := by decide +kernel
theorem dX11_many_25 : decode cX11_many 25 = .ok (.iadd, 1) := by decide +kernel
theorem dX11_many_26 : decode cX11_many 26 = .ok (.istore_n 1, 1) := by decide +kernel
theorem dX11_many_27 : decode cX11_many 27 = .ok (.iinc 2 1, 3) := by decide +kernel
theorem dX11_many_30 : decode cX11_many 30 = .ok (.goto (-26), 3) := by decide +kernel
theorem dX11_many_33 : decode cX11_many 33 = .ok (.iload_n 1, 1) := by decide +kernel
theorem dX11_many_34 : decode cX11_many 34 = .ok (.ireturn, 1) := by decide +kernel
theorem dX11_documents_0 : decode cX11_documents 0 = .ok (.aload_n 0, 1) := by decide +kernel
theorem dX11_documents_1 : decode cX11_documents 1 = .ok (.iconst 0, 1) := by decide +kernel
theorem dX11_documents_2 : decode cX11_documents 2 = .ok (.putfield 74, 3) := by decide +kernel
theorem dX11_documents_5 : decode cX11_documents 5 = .ok (.aload_n 0, 1) := by decide +kernel
theorem dX11_documents_6 : decode cX11_documents 6 = .ok (.invokevirtual 90, 3) := by decide +kernel
theorem dX11_documents_9 : decode cX11_documents 9 = .ok (.ireturn, 1) := by decide +kernel
theorem dX11_isTrue_0 : decode cX11_isTrue 0 = .ok (.iload_n 0, 1) := by decide +kernel
theorem dX11_isTrue_1 : decode cX11_isTrue 1 = .ok (.iload_n 1, 1) := by decide +kernel
theorem dX11_isTrue_2 : decode cX11_isTrue 2 = .ok (.iconst 2, 1) := by decide +kernel
theorem dX11_isTrue_3 : decode cX11_isTrue 3 = .ok (.idiv, 1) := by decide +kernel
theorem dX11_isTrue_4 : decode cX11_isTrue 4 = .ok (.ishr, 1) := by decide +kernel
theorem dX11_isTrue_5 : decode cX11_isTrue 5 = .ok (.iconst 1, 1) := by decide +kernel
theorem dX11_isTrue_6 : decode cX11_isTrue 6 = .ok (.iand, 1) := by decide +kernel
theorem dX11_isTrue_7 : decode cX11_isTrue 7 = .ok (.iload_n 1, 1) := by decide +kernel
theorem dX11_isTrue_8 : decode cX11_isTrue 8 = .ok (.iconst 2, 1) := by decide +kernel
theorem dX11_isTrue_9 : decode cX11_isTrue 9 = .ok (.irem, 1) := by decide +kernel
theorem dX11_isTrue_10 : decode cX11_isTrue 10 = .ok (.if_icmp .eq 7, 3) := by decide +kernel
theorem dX11_isTrue_13 : decode cX11_isTrue 13 = .ok (.iconst 1, 1) := by decide +kernel
theorem dX11_isTrue_14 : decode cX11_isTrue 14 = .ok (.goto 4, 3) := by decide +kernel
theorem dX11_isTrue_17 : decode cX11_isTrue 17 = .ok (.iconst 0, 1) := by decide +kernel
theorem dX11_isTrue_18 : decode cX11_isTrue 18 = .ok (.ireturn, 1) := by decide +kernel
theorem dX11_count0_0 : decode cX11_count0 0 = .ok (.iconst 0, 1) := by decide +kernel
theorem dX11_count0_1 : decode cX11_count0 1 = .ok (.istore_n 2, 1) := by decide +kernel
theorem dX11_count0_2 : decode cX11_count0 2 = .ok (.iconst 0, 1) := by decide +kernel
theorem dX11_count0_3 : decode cX11_count0 3 = .ok (.istore_n 3, 1) := by decide +kernel
theorem dX11_count0_4 : decode cX11_count0 4 = .ok (.iload_n 3, 1) := by decide +kernel
theorem dX11_count0_5 : decode cX11_count0 5 = .ok (.bipush 40, 2) := by decide +kernel
theorem dX11_count0_7 : decode cX11_count0 7 = .ok (.if_icmp .ge 39, 3) := by decide +kernel
theorem dX11_count0_10 : decode cX11_count0 10 = .ok (.iload_n 2, 1) := by decide +kernel
theorem dX11_count0_11 : decode cX11_count0 11 = .ok (.aload_n 0, 1) := by decide +kernel
theorem dX11_count0_12 : decode cX11_count0 12 = .ok (.getfield 7, 3) := by decide +kernel
theorem dX11_count0_15 : decode cX11_count0 15 = .ok (.iload_n 3, 1) := by decide +kernel
theorem dX11_count0_16 : decode cX11_count0 16 = .ok (.baload, 1) := by decide +kernel
theorem dX11_count0_17 : decode cX11_count0 17 = .ok (.ifCond .eq 20, 3) := by decide +kernel
theorem dX11_count0_20 : decode cX11_count0 20 = .ok (.aload_n 0, 1) := by decide +kernel
theorem dX11_count0_21 : decode cX11_count0 21 = .ok (.getfield 13, 3) := by decide +kernel
theorem dX11_count0_24 : decode cX11_count0 24 = .ok (.iload_n 3, 1) := by decide +kernel
theorem dX11_count0_25 : decode cX11_count0 25 = .ok (.iaload, 1) := by decide +kernel
theorem dX11_count0_26 : decode cX11_count0 26 = .ok (.iload_n 1, 1) := by decide +kernel
theorem dX11_count0_27 : decode cX11_count0 27 = .ok (.invokestatic 94, 3) := by decide +kernel
theorem dX11_count0_30 : decode cX11_count0 30 = .ok (.ifCond .eq 7, 3) := by decide +kernel
theorem dX11_count0_33 : decode cX11_count0 33 = .ok (.iconst 1, 1) := by decide +kernel
theorem dX11_count0_34 : decode cX11_count0 34 = .ok (.goto 4, 3) := by decide +kernel
theorem dX11_count0_37 : decode cX11_count0 37 = .ok (.iconst 0, 1) := by decide +kernel
theorem dX11_count0_38 : decode cX11_count0 38 = .ok (.iadd, 1) := by decide +kernel
theorem dX11_count0_39 : decode cX11_count0 39 = .ok (.istore_n 2, 1) := by decide +kernel
theorem dX11_count0_40 : decode cX11_count0 40 = .ok (.iinc 3 1, 3) := by decide +kernel
theorem dX11_count0_43 : decode cX11_count0 43 = .ok (.goto (-39), 3) := by decide +kernel
theorem dX11_count0_46 : decode cX11_count0 46 = .ok (.iload_n 2, 1) := by decide +kernel
theorem dX11_count0_47 : decode cX11_count0 47 = .ok (.ireturn, 1) := by decide +kernel
theorem dX11_count_0 : decode cX11_count 0 = .ok (.aload_n 0, 1) := by decide +kernel
theorem dX11_count_1 : decode cX11_count 1 = .ok (.iload_n 1, 1) := by decide +kernel
theorem dX11_count_2 : decode cX11_count 2 = .ok (.iconst 0, 1) := by decide +kernel
theorem dX11_count_3 : decode cX11_count 3 = .ok (.bipush 7, 2) := by decide +kernel
theorem dX11_count_5 : decode cX11_count 5 = .ok (.invokestatic 78, 3) := by decide +kernel
theorem dX11_count_8 : decode cX11_count 8 = .ok (.iconst 1, 1) := by decide +kernel
theorem dX11_count_9 : decode cX11_count 9 = .ok (.iconst 1, 1) := by decide +kernel
theorem dX11_count_10 : decode cX11_count 10 = .ok (.invokevirtual 86, 3) := by decide +kernel
theorem dX11_count_13 : decode cX11_count 13 = .ok (.ifCond .eq 13, 3) := by decide +kernel
theorem dX11_count_16 : decode cX11_count 16 = .ok (.aload_n 0, 1) := by decide +kernel
theorem dX11_count_17 : decode cX11_count 17 = .ok (.iconst 2, 1) := by decide +kernel
theorem dX11_count_18 : decode cX11_count 18 = .ok (.iload_n 1, 1) := by decide +kernel
theorem dX11_count_19 : decode cX11_count 19 = .ok (.imul, 1) := by decide +kernel
theorem dX11_count_20 : decode cX11_count 20 = .ok (.invokevirtual 98, 3) := by decide +kernel
theorem dX11_count_23 : decode cX11_count 23 = .ok (.goto 4, 3) := by decide +kernel
theorem dX11_count_26 : decode cX11_count 26 = .ok (.iconst 0, 1) := by decide +kernel
theorem dX11_count_27 : decode cX11_count 27 = .ok (.ireturn, 1) := by decide +kernel
theorem dX11_fits_0 : decode cX11_fits 0 = .ok (.iload_n 0, 1) := by decide +kernel
theorem dX11_fits_1 : decode cX11_fits 1 = .ok (.iconst 0, 1) := by decide +kernel
theorem dX11_fits_2 : decode cX11_fits 2 = .ok (.iconst 2, 1) := by decide +kernel
theorem dX11_fits_3 : decode cX11_fits 3 = .ok (.invokestatic 78, 3) := by decide +kernel
theorem dX11_fits_6 : decode cX11_fits 6 = .ok (.ifCond .eq 28, 3) := by decide +kernel
theorem dX11_fits_9 : decode cX11_fits 9 = .ok (.iload_n 0, 1) := by decide +kernel
theorem dX11_fits_10 : decode cX11_fits 10 = .ok (.iconst 2, 1) := by decide +kernel
theorem dX11_fits_11 : decode cX11_fits 11 = .ok (.if_icmp .ne 15, 3) := by decide +kernel
theorem dX11_fits_14 : decode cX11_fits 14 = .ok (.iload_n 1, 1) := by decide +kernel
theorem dX11_fits_15 : decode cX11_fits 15 = .ok (.iconst 1, 1) := by decide +kernel
theorem dX11_fits_16 : decode cX11_fits 16 = .ok (.iload_n 2, 1) := by decide +kernel
theorem dX11_fits_17 : decode cX11_fits 17 = .ok (.invokestatic 78, 3) := by decide +kernel
theorem dX11_fits_20 : decode cX11_fits 20 = .ok (.ifCond .eq 14, 3) := by decide +kernel
theorem dX11_fits_23 : decode cX11_fits 23 = .ok (.goto 7, 3) := by decide +kernel
theorem dX11_fits_26 : decode cX11_fits 26 = .ok (.iload_n 1, 1) := by decide +kernel
theorem dX11_fits_27 : decode cX11_fits 27 = .ok (.ifCond .ne 7, 3) := by decide +kernel
theorem dX11_fits_30 : decode cX11_fits 30 = .ok (.iconst 1, 1) := by decide +kernel
theorem dX11_fits_31 : decode cX11_fits 31 = .ok (.goto 4, 3) := by decide +kernel
theorem dX11_fits_34 : decode cX11_fits 34 = .ok (.iconst 0, 1) := by decide +kernel
theorem dX11_fits_35 : decode cX11_fits 35 = .ok (.ireturn, 1) := by decide +kernel
theorem dX11_ask_0 : decode cX11_ask 0 = .ok (.aload_n 0, 1) := by decide +kernel
theorem dX11_ask_1 : decode cX11_ask 1 = .ok (.iload_n 1, 1) := by decide +kernel
theorem dX11_ask_2 : decode cX11_ask 2 = .ok (.iload_n 2, 1) := by decide +kernel
theorem dX11_ask_3 : decode cX11_ask 3 = .ok (.iconst 5, 1) := by decide +kernel
theorem dX11_ask_4 : decode cX11_ask 4 = .ok (.invokestatic 102, 3) := by decide +kernel
theorem dX11_ask_7 : decode cX11_ask 7 = .ok (.iconst 1, 1) := by decide +kernel
theorem dX11_ask_8 : decode cX11_ask 8 = .ok (.iconst 1, 1) := by decide +kernel
theorem dX11_ask_9 : decode cX11_ask 9 = .ok (.invokevirtual 86, 3) := by decide +kernel
theorem dX11_ask_12 : decode cX11_ask 12 = .ok (.ifCond .ne 5, 3) := by decide +kernel
theorem dX11_ask_15 : decode cX11_ask 15 = .ok (.iconst 0, 1) := by decide +kernel
theorem dX11_ask_16 : decode cX11_ask 16 = .ok (.ireturn, 1) := by decide +kernel
theorem dX11_ask_17 : decode cX11_ask 17 = .ok (.aload_n 0, 1) := by decide +kernel
theorem dX11_ask_18 : decode cX11_ask 18 = .ok (.getfield 105, 3) := by decide +kernel
theorem dX11_ask_21 : decode cX11_ask 21 = .ok (.istore_n 3, 1) := by decide +kernel
theorem dX11_ask_22 : decode cX11_ask 22 = .ok (.aload_n 0, 1) := by decide +kernel
theorem dX11_ask_23 : decode cX11_ask 23 = .ok (.iload_n 1, 1) := by decide +kernel
theorem dX11_ask_24 : decode cX11_ask 24 = .ok (.putfield 108, 3) := by decide +kernel
theorem dX11_ask_27 : decode cX11_ask 27 = .ok (.aload_n 0, 1) := by decide +kernel
theorem dX11_ask_28 : decode cX11_ask 28 = .ok (.iload_n 2, 1) := by decide +kernel
theorem dX11_ask_29 : decode cX11_ask 29 = .ok (.putfield 111, 3) := by decide +kernel
theorem dX11_ask_32 : decode cX11_ask 32 = .ok (.aload_n 0, 1) := by decide +kernel
theorem dX11_ask_33 : decode cX11_ask 33 = .ok (.iconst 0, 1) := by decide +kernel
theorem dX11_ask_34 : decode cX11_ask 34 = .ok (.putfield 105, 3) := by decide +kernel
theorem dX11_ask_37 : decode cX11_ask 37 = .ok (.iload_n 3, 1) := by decide +kernel
theorem dX11_ask_38 : decode cX11_ask 38 = .ok (.ireturn, 1) := by decide +kernel
theorem dX11_clause_0 : decode cX11_clause 0 = .ok (.aload_n 0, 1) := by decide +kernel
theorem dX11_clause_1 : decode cX11_clause 1 = .ok (.iload_n 1, 1) := by decide +kernel
theorem dX11_clause_2 : decode cX11_clause 2 = .ok (.iload_n 2, 1) := by decide +kernel
theorem dX11_clause_3 : decode cX11_clause 3 = .ok (.bipush 6, 2) := by decide +kernel
theorem dX11_clause_5 : decode cX11_clause 5 = .ok (.invokestatic 102, 3) := by decide +kernel
theorem dX11_clause_8 : decode cX11_clause 8 = .ok (.aload_n 0, 1) := by decide +kernel
theorem dX11_clause_9 : decode cX11_clause 9 = .ok (.getfield 105, 3) := by decide +kernel
theorem dX11_clause_12 : decode cX11_clause 12 = .ok (.iconst 5, 1) := by decide +kernel
theorem dX11_clause_13 : decode cX11_clause 13 = .ok (.if_icmp .ge 7, 3) := by decide +kernel
theorem dX11_clause_16 : decode cX11_clause 16 = .ok (.iconst 1, 1) := by decide +kernel
theorem dX11_clause_17 : decode cX11_clause 17 = .ok (.goto 4, 3) := by decide +kernel
theorem dX11_clause_20 : decode cX11_clause 20 = .ok (.iconst 0, 1) := by decide +kernel
theorem dX11_clause_21 : decode cX11_clause 21 = .ok (.iconst 1, 1) := by decide +kernel
theorem dX11_clause_22 : decode cX11_clause 22 = .ok (.invokevirtual 86, 3) := by decide +kernel
theorem dX11_clause_25 : decode cX11_clause 25 = .ok (.ifCond .ne 5, 3) := by decide +kernel
theorem dX11_clause_28 : decode cX11_clause 28 = .ok (.iconst 0, 1) := by decide +kernel
theorem dX11_clause_29 : decode cX11_clause 29 = .ok (.ireturn, 1) := by decide +kernel
theorem dX11_clause_30 : decode cX11_clause 30 = .ok (.aload_n 0, 1) := by decide +kernel
theorem dX11_clause_31 : decode cX11_clause 31 = .ok (.getfield 17, 3) := by decide +kernel
theorem dX11_clause_34 : decode cX11_clause 34 = .ok (.aload_n 0, 1) := by decide +kernel
theorem dX11_clause_35 : decode cX11_clause 35 = .ok (.getfield 105, 3) := by decide +kernel
theorem dX11_clause_38 : decode cX11_clause 38 = .ok (.iload_n 1, 1) := by decide +kernel
theorem dX11_clause_39 : decode cX11_clause 39 = .ok (.iastore, 1) := by decide +kernel
theorem dX11_clause_40 : decode cX11_clause 40 = .ok (.aload_n 0, 1) := by decide +kernel
theorem dX11_clause_41 : decode cX11_clause 41 = .ok (.getfield 20, 3) := by decide +kernel
theorem dX11_clause_44 : decode cX11_clause 44 = .ok (.aload_n 0, 1) := by decide +kernel
theorem dX11_clause_45 : decode cX11_clause 45 = .ok (.getfield 105, 3) := by decide +kernel
theorem dX11_clause_48 : decode cX11_clause 48 = .ok (.iload_n 2, 1) := by decide +kernel
theorem dX11_clause_49 : decode cX11_clause 49 = .ok (.iastore, 1) := by decide +kernel
theorem dX11_clause_50 : decode cX11_clause 50 = .ok (.aload_n 0, 1) := by decide +kernel
theorem dX11_clause_51 : decode cX11_clause 51 = .ok (.getfield 23, 3) := by decide +kernel
theorem dX11_clause_54 : decode cX11_clause 54 = .ok (.aload_n 0, 1) := by decide +kernel
theorem dX11_clause_55 : decode cX11_clause 55 = .ok (.getfield 105, 3) := by decide +kernel
theorem dX11_clause_58 : decode cX11_clause 58 = .ok (.iload_n 3, 1) := by decide +kernel
theorem dX11_clause_59 : decode cX11_clause 59 = .ok (.bastore, 1) := by decide +kernel
theorem dX11_clause_60 : decode cX11_clause 60 = .ok (.aload_n 0, 1) := by decide +kernel
theorem dX11_clause_61 : decode cX11_clause 61 = .ok (.getfield 26, 3) := by decide +kernel
theorem dX11_clause_64 : decode cX11_clause 64 = .ok (.aload_n 0, 1) := by decide +kernel
theorem dX11_clause_65 : decode cX11_clause 65 = .ok (.getfield 105, 3) := by decide +kernel
theorem dX11_clause_68 : decode cX11_clause 68 = .ok (.iconst 0, 1) := by decide +kernel
theorem dX11_clause_69 : decode cX11_clause 69 = .ok (.iastore, 1) := by decide +kernel
theorem dX11_clause_70 : decode cX11_clause 70 = .ok (.aload_n 0, 1) := by decide +kernel
theorem dX11_clause_71 : decode cX11_clause 71 = .ok (.dup, 1) := by decide +kernel
theorem dX11_clause_72 : decode cX11_clause 72 = .ok (.getfield 105, 3) := by decide +kernel
theorem dX11_clause_75 : decode cX11_clause 75 = .ok (.iconst 1, 1) := by decide +kernel
theorem dX11_clause_76 : decode cX11_clause 76 = .ok (.iadd, 1) := by decide +kernel
theorem dX11_clause_77 : decode cX11_clause 77 = .ok (.putfield 105, 3) := by decide +kernel
theorem dX11_clause_80 : decode cX11_clause 80 = .ok (.aload_n 0, 1) := by decide +kernel
theorem dX11_clause_81 : decode cX11_clause 81 = .ok (.getfield 105, 3) := by decide +kernel
theorem dX11_clause_84 : decode cX11_clause 84 = .ok (.iconst 1, 1) := by decide +kernel
theorem dX11_clause_85 : decode cX11_clause 85 = .ok (.isub, 1) := by decide +kernel
theorem dX11_clause_86 : decode cX11_clause 86 = .ok (.ireturn, 1) := by decide +kernel
theorem dX11_literal_0 : decode cX11_literal 0 = .ok (.iload_n 1, 1) := by decide +kernel
theorem dX11_literal_1 : decode cX11_literal 1 = .ok (.iconst 0, 1) := by decide +kernel
theorem dX11_literal_2 : decode cX11_literal 2 = .ok (.aload_n 0, 1) := by decide +kernel
theorem dX11_literal_3 : decode cX11_literal 3 = .ok (.getfield 105, 3) := by decide +kernel
theorem dX11_literal_6 : decode cX11_literal 6 = .ok (.iconst 1, 1) := by decide +kernel
theorem dX11_literal_7 : decode cX11_literal 7 = .ok (.isub, 1) := by decide +kernel
theorem dX11_literal_8 : decode cX11_literal 8 = .ok (.invokestatic 78, 3) := by decide +kernel
theorem dX11_literal_11 : decode cX11_literal 11 = .ok (.ifCond .eq 17, 3) := by decide +kernel
theorem dX11_literal_14 : decode cX11_literal 14 = .ok (.iload_n 2, 1) := by decide +kernel
theorem dX11_literal_15 : decode cX11_literal 15 = .ok (.iconst 0, 1) := by decide +kernel
theorem dX11_literal_16 : decode cX11_literal 16 = .ok (.bipush 7, 2) := by decide +kernel
theorem dX11_literal_18 : decode cX11_literal 18 = .ok (.invokestatic 78, 3) := by decide +kernel
theorem dX11_literal_21 : decode cX11_literal 21 = .ok (.ifCond .eq 7, 3) := by decide +kernel
theorem dX11_literal_24 : decode cX11_literal 24 = .ok (.iconst 1, 1) := by decide +kernel
theorem dX11_literal_25 : decode cX11_literal 25 = .ok (.goto 4, 3) := by decide +kernel
theorem dX11_literal_28 : decode cX11_literal 28 = .ok (.iconst 0, 1) := by decide +kernel
theorem dX11_literal_29 : decode cX11_literal 29 = .ok (.istore 4, 2) := by decide +kernel
theorem dX11_literal_31 : decode cX11_literal 31 = .ok (.aload_n 0, 1) := by decide +kernel
theorem dX11_literal_32 : decode cX11_literal 32 = .ok (.iload 4, 2) := by decide +kernel
theorem dX11_literal_34 : decode cX11_literal 34 = .ok (.iload 4, 2) := by decide +kernel
theorem dX11_literal_36 : decode cX11_literal 36 = .ok (.ifCond .eq 18, 3) := by decide +kernel
theorem dX11_literal_39 : decode cX11_literal 39 = .ok (.aload_n 0, 1) := by decide +kernel
theorem dX11_literal_40 : decode cX11_literal 40 = .ok (.getfield 26, 3) := by decide +kernel
theorem dX11_literal_43 : decode cX11_literal 43 = .ok (.iload_n 1, 1) := by decide +kernel
theorem dX11_literal_44 : decode cX11_literal 44 = .ok (.iaload, 1) := by decide +kernel
theorem dX11_literal_45 : decode cX11_literal 45 = .ok (.bipush 6, 2) := by decide +kernel
theorem dX11_literal_47 : decode cX11_literal 47 = .ok (.if_icmp .ge 7, 3) := by decide +kernel
theorem dX11_literal_50 : decode cX11_literal 50 = .ok (.iconst 1, 1) := by decide +kernel
theorem dX11_literal_51 : decode cX11_literal 51 = .ok (.goto 4, 3) := by decide +kernel
theorem dX11_literal_54 : decode cX11_literal 54 = .ok (.iconst 0, 1) := by decide +kernel
theorem dX11_literal_55 : decode cX11_literal 55 = .ok (.iconst 1, 1) := by decide +kernel
theorem dX11_literal_56 : decode cX11_literal 56 = .ok (.invokevirtual 86, 3) := by decide +kernel
theorem dX11_literal_59 : decode cX11_literal 59 = .ok (.ifCond .ne 5, 3) := by decide +kernel
theorem dX11_literal_62 : decode cX11_literal 62 = .ok (.iconst 0, 1) := by decide +kernel
theorem dX11_literal_63 : decode cX11_literal 63 = .ok (.ireturn, 1) := by decide +kernel
theorem dX11_literal_64 : decode cX11_literal 64 = .ok (.aload_n 0, 1) := by decide +kernel
theorem dX11_literal_65 : decode cX11_literal 65 = .ok (.getfield 29, 3) := by decide +kernel
theorem dX11_literal_68 : decode cX11_literal 68 = .ok (.bipush 6, 2) := by decide +kernel
theorem dX11_literal_70 : decode cX11_literal 70 = .ok (.iload_n 1, 1) := by decide +kernel
theorem dX11_literal_71 : decode cX11_literal 71 = .ok (.imul, 1) := by decide +kernel
theorem dX11_literal_72 : decode cX11_literal 72 = .ok (.aload_n 0, 1) := by decide +kernel
theorem dX11_literal_73 : decode cX11_literal 73 = .ok (.getfield 26, 3) := by decide +kernel
theorem dX11_literal_76 : decode cX11_literal 76 = .ok (.iload_n 1, 1) := by decide +kernel
theorem dX11_literal_77 : decode cX11_literal 77 = .ok (.iaload, 1) := by decide +kernel
theorem dX11_literal_78 : decode cX11_literal 78 = .ok (.iadd, 1) := by decide +kernel
theorem dX11_literal_79 : decode cX11_literal 79 = .ok (.iconst 2, 1) := by decide +kernel
theorem dX11_literal_80 : decode cX11_literal 80 = .ok (.iload_n 2, 1) := by decide +kernel
theorem dX11_literal_81 : decode cX11_literal 81 = .ok (.imul, 1) := by decide +kernel
theorem dX11_literal_82 : decode cX11_literal 82 = .ok (.iload_n 3, 1) := by decide +kernel
theorem dX11_literal_83 : decode cX11_literal 83 = .ok (.ifCond .eq 7, 3) := by decide +kernel
theorem dX11_literal_86 : decode cX11_literal 86 = .ok (.iconst 1, 1) := by decide +kernel
theorem dX11_literal_87 : decode cX11_literal 87 = .ok (.goto 4, 3) := by decide +kernel
theorem dX11_literal_90 : decode cX11_literal 90 = .ok (.iconst 0, 1) := by decide +kernel
theorem dX11_literal_91 : decode cX11_literal 91 = .ok (.iadd, 1) := by decide +kernel
theorem dX11_literal_92 : decode cX11_literal 92 = .ok (.iastore, 1) := by decide +kernel
theorem dX11_literal_93 : decode cX11_literal 93 = .ok (.aload_n 0, 1) := by decide +kernel
theorem dX11_literal_94 : decode cX11_literal 94 = .ok (.getfield 26, 3) := by decide +kernel
theorem dX11_literal_97 : decode cX11_literal 97 = .ok (.iload_n 1, 1) := by decide +kernel
theorem dX11_literal_98 : decode cX11_literal 98 = .ok (.dup2, 1) := by decide +kernel
theorem dX11_literal_99 : decode cX11_literal 99 = .ok (.iaload, 1) := by decide +kernel
theorem dX11_literal_100 : decode cX11_literal 100 = .ok (.iconst 1, 1) := by decide +kernel
theorem dX11_literal_101 : decode cX11_literal 101 = .ok (.iadd, 1) := by decide +kernel
theorem dX11_literal_102 : decode cX11_literal 102 = .ok (.iastore, 1) := by decide +kernel
theorem dX11_literal_103 : decode cX11_literal 103 = .ok (.aload_n 0, 1) := by decide +kernel
theorem dX11_literal_104 : decode cX11_literal 104 = .ok (.getfield 26, 3) := by decide +kernel
theorem dX11_literal_107 : decode cX11_literal 107 = .ok (.iload_n 1, 1) := by decide +kernel
theorem dX11_literal_108 : decode cX11_literal 108 = .ok (.iaload, 1) := by decide +kernel
theorem dX11_literal_109 : decode cX11_literal 109 = .ok (.ireturn, 1) := by decide +kernel
theorem dX11_isBy_0 : decode cX11_isBy 0 = .ok (.iload_n 0, 1) := by decide +kernel
theorem dX11_isBy_1 : decode cX11_isBy 1 = .ok (.ifCond .ne 16, 3) := by decide +kernel
theorem dX11_isBy_4 : decode cX11_isBy 4 = .ok (.iload_n 2, 1) := by decide +kernel
theorem dX11_isBy_5 : decode cX11_isBy 5 = .ok (.iload_n 3, 1) := by decide +kernel
theorem dX11_isBy_6 : decode cX11_isBy 6 = .ok (.if_icmp .ne 7, 3) := by decide +kernel
theorem dX11_isBy_9 : decode cX11_isBy 9 = .ok (.iconst 1, 1) := by decide +kernel
theorem dX11_isBy_10 : decode cX11_isBy 10 = .ok (.goto 34, 3) := by decide +kernel
theorem dX11_isBy_13 : decode cX11_isBy 13 = .ok (.iconst 0, 1) := by decide +kernel
theorem dX11_isBy_14 : decode cX11_isBy 14 = .ok (.goto 30, 3) := by decide +kernel
theorem dX11_isBy_17 : decode cX11_isBy 17 = .ok (.iload_n 0, 1) := by decide +kernel
theorem dX11_isBy_18 : decode cX11_isBy 18 = .ok (.iconst 1, 1) := by decide +kernel
theorem dX11_isBy_19 : decode cX11_isBy 19 = .ok (.if_icmp .ne 15, 3) := by decide +kernel
theorem dX11_isBy_22 : decode cX11_isBy 22 = .ok (.iload_n 2, 1) := by decide +kernel
theorem dX11_isBy_23 : decode cX11_isBy 23 = .ok (.ifCond .le 7, 3) := by decide +kernel
theorem dX11_isBy_26 : decode cX11_isBy 26 = .ok (.iconst 1, 1) := by decide +kernel
theorem dX11_isBy_27 : decode cX11_isBy 27 = .ok (.goto 17, 3) := by decide +kernel
theorem dX11_isBy_30 : decode cX11_isBy 30 = .ok (.iconst 0, 1) := by decide +kernel
theorem dX11_isBy_31 : decode cX11_isBy 31 = .ok (.goto 13, 3) := by decide +kernel
theorem dX11_isBy_34 : decode cX11_isBy 34 = .ok (.iload_n 2, 1) := by decide +kernel
theorem dX11_isBy_35 : decode cX11_isBy 35 = .ok (.iload_n 1, 1) := by decide +kernel
theorem dX11_isBy_36 : decode cX11_isBy 36 = .ok (.if_icmp .lt 7, 3) := by decide +kernel
theorem dX11_isBy_39 : decode cX11_isBy 39 = .ok (.iconst 1, 1) := by decide +kernel
theorem dX11_isBy_40 : decode cX11_isBy 40 = .ok (.goto 4, 3) := by decide +kernel
theorem dX11_isBy_43 : decode cX11_isBy 43 = .ok (.iconst 0, 1) := by decide +kernel
theorem dX11_isBy_44 : decode cX11_isBy 44 = .ok (.ireturn, 1) := by decide +kernel
theorem dX11_isMatch_0 : decode cX11_isMatch 0 = .ok (.iconst 0, 1) := by decide +kernel
theorem dX11_isMatch_1 : decode cX11_isMatch 1 = .ok (.istore_n 2, 1) := by decide +kernel
theorem dX11_isMatch_2 : decode cX11_isMatch 2 = .ok (.iconst 0, 1) := by decide +kernel
theorem dX11_isMatch_3 : decode cX11_isMatch 3 = .ok (.istore_n 3, 1) := by decide +kernel
theorem dX11_isMatch_4 : decode cX11_isMatch 4 = .ok (.iload_n 3, 1) := by decide +kernel
theorem dX11_isMatch_5 : decode cX11_isMatch 5 = .ok (.aload_n 0, 1) := by decide +kernel
theorem dX11_isMatch_6 : decode cX11_isMatch 6 = .ok (.getfield 105, 3) := by decide +kernel
theorem dX11_isMatch_9 : decode cX11_isMatch 9 = .ok (.if_icmp .ge 106, 3) := by decide +kernel
theorem dX11_isMatch_12 : decode cX11_isMatch 12 = .ok (.iconst 0, 1) := by decide +kernel
theorem dX11_isMatch_13 : decode cX11_isMatch 13 = .ok (.istore 4, 2) := by decide +kernel
theorem dX11_isMatch_15 : decode cX11_isMatch 15 = .ok (.iconst 0, 1) := by decide +kernel
theorem dX11_isMatch_16 : decode cX11_isMatch 16 = .ok (.istore 5, 2) := by decide +kernel
theorem dX11_isMatch_18 : decode cX11_isMatch 18 = .ok (.iload 5, 2) := by decide +kernel
theorem dX11_isMatch_20 : decode cX11_isMatch 20 = .ok (.aload_n 0, 1) := by decide +kernel
theorem dX11_isMatch_21 : decode cX11_isMatch 21 = .ok (.getfield 26, 3) := by decide +kernel
theorem dX11_isMatch_24 : decode cX11_isMatch 24 = .ok (.iload_n 3, 1) := by decide +kernel
theorem dX11_isMatch_25 : decode cX11_isMatch 25 = .ok (.iaload, 1) := by decide +kernel
theorem dX11_isMatch_26 : decode cX11_isMatch 26 = .ok (.if_icmp .ge 43, 3) := by decide +kernel
theorem dX11_isMatch_29 : decode cX11_isMatch 29 = .ok (.iload 4, 2) := by decide +kernel
theorem dX11_isMatch_31 : decode cX11_isMatch 31 = .ok (.aload_n 0, 1) := by decide +kernel
theorem dX11_isMatch_32 : decode cX11_isMatch 32 = .ok (.getfield 13, 3) := by decide +kernel
theorem dX11_isMatch_35 : decode cX11_isMatch 35 = .ok (.iload_n 1, 1) := by decide +kernel
theorem dX11_isMatch_36 : decode cX11_isMatch 36 = .ok (.iaload, 1) := by decide +kernel
theorem dX11_isMatch_37 : decode cX11_isMatch 37 = .ok (.aload_n 0, 1) := by decide +kernel
theorem dX11_isMatch_38 : decode cX11_isMatch 38 = .ok (.getfield 29, 3) := by decide +kernel
theorem dX11_isMatch_41 : decode cX11_isMatch 41 = .ok (.bipush 6, 2) := by decide +kernel
theorem dX11_isMatch_43 : decode cX11_isMatch 43 = .ok (.iload_n 3, 1) := by decide +kernel
theorem dX11_isMatch_44 : decode cX11_isMatch 44 = .ok (.imul, 1) := by decide +kernel
theorem dX11_isMatch_45 : decode cX11_isMatch 45 = .ok (.iload 5, 2) := by decide +kernel
theorem dX11_isMatch_47 : decode cX11_isMatch 47 = .ok (.iadd, 1) := by decide +kernel
theorem dX11_isMatch_48 : decode cX11_isMatch 48 = .ok (.iaload, 1) := by decide +kernel
theorem dX11_isMatch_49 : decode cX11_isMatch 49 = .ok (.invokestatic 94, 3) := by decide +kernel
theorem dX11_isMatch_52 : decode cX11_isMatch 52 = .ok (.ifCond .eq 7, 3) := by decide +kernel
theorem dX11_isMatch_55 : decode cX11_isMatch 55 = .ok (.iconst 1, 1) := by decide +kernel
theorem dX11_isMatch_56 : decode cX11_isMatch 56 = .ok (.goto 4, 3) := by decide +kernel
theorem dX11_isMatch_59 : decode cX11_isMatch 59 = .ok (.iconst 0, 1) := by decide +kernel
theorem dX11_isMatch_60 : decode cX11_isMatch 60 = .ok (.iadd, 1) := by decide +kernel
theorem dX11_isMatch_61 : decode cX11_isMatch 61 = .ok (.istore 4, 2) := by decide +kernel
theorem dX11_isMatch_63 : decode cX11_isMatch 63 = .ok (.iinc 5 1, 3) := by decide +kernel
theorem dX11_isMatch_66 : decode cX11_isMatch 66 = .ok (.goto (-48), 3) := by decide +kernel
theorem dX11_isMatch_69 : decode cX11_isMatch 69 = .ok (.iload_n 2, 1) := by decide +kernel
theorem dX11_isMatch_70 : decode cX11_isMatch 70 = .ok (.aload_n 0, 1) := by decide +kernel
theorem dX11_isMatch_71 : decode cX11_isMatch 71 = .ok (.getfield 17, 3) := by decide +kernel
theorem dX11_isMatch_74 : decode cX11_isMatch 74 = .ok (.iload_n 3, 1) := by decide +kernel
theorem dX11_isMatch_75 : decode cX11_isMatch 75 = .ok (.iaload, 1) := by decide +kernel
theorem dX11_isMatch_76 : decode cX11_isMatch 76 = .ok (.aload_n 0, 1) := by decide +kernel
theorem dX11_isMatch_77 : decode cX11_isMatch 77 = .ok (.getfield 20, 3) := by decide +kernel
theorem dX11_isMatch_80 : decode cX11_isMatch 80 = .ok (.iload_n 3, 1) := by decide +kernel
theorem dX11_isMatch_81 : decode cX11_isMatch 81 = .ok (.iaload, 1) := by decide +kernel
theorem dX11_isMatch_82 : decode cX11_isMatch 82 = .ok (.iload 4, 2) := by decide +kernel
theorem dX11_isMatch_84 : decode cX11_isMatch 84 = .ok (.aload_n 0, 1) := by decide +kernel
theorem dX11_isMatch_85 : decode cX11_isMatch 85 = .ok (.getfield 26, 3) := by decide +kernel
theorem dX11_isMatch_88 : decode cX11_isMatch 88 = .ok (.iload_n 3, 1) := by decide +kernel
theorem dX11_isMatch_89 : decode cX11_isMatch 89 = .ok (.iaload, 1) := by decide +kernel
theorem dX11_isMatch_90 : decode cX11_isMatch 90 = .ok (.invokestatic 114, 3) := by decide +kernel
theorem dX11_isMatch_93 : decode cX11_isMatch 93 = .ok (.aload_n 0, 1) := by decide +kernel
theorem dX11_isMatch_94 : decode cX11_isMatch 94 = .ok (.getfield 23, 3) := by decide +kernel
theorem dX11_isMatch_97 : decode cX11_isMatch 97 = .ok (.iload_n 3, 1) := by decide +kernel
theorem dX11_isMatch_98 : decode cX11_isMatch 98 = .ok (.baload, 1) := by decide +kernel
theorem dX11_isMatch_99 : decode cX11_isMatch 99 = .ok (.if_icmp .eq 7, 3) := by decide +kernel
theorem dX11_isMatch_102 : decode cX11_isMatch 102 = .ok (.iconst 1, 1) := by decide +kernel
theorem dX11_isMatch_103 : decode cX11_isMatch 103 = .ok (.goto 4, 3) := by decide +kernel
theorem dX11_isMatch_106 : decode cX11_isMatch 106 = .ok (.iconst 0, 1) := by decide +kernel
theorem dX11_isMatch_107 : decode cX11_isMatch 107 = .ok (.iadd, 1) := by decide +kernel
theorem dX11_isMatch_108 : decode cX11_isMatch 108 = .ok (.istore_n 2, 1) := by decide +kernel
theorem dX11_isMatch_109 : decode cX11_isMatch 109 = .ok (.iinc 3 1, 3) := by decide +kernel
theorem dX11_isMatch_112 : decode cX11_isMatch 112 = .ok (.goto (-108), 3) := by decide +kernel
theorem dX11_isMatch_115 : decode cX11_isMatch 115 = .ok (.aload_n 0, 1) := by decide +kernel
theorem dX11_isMatch_116 : decode cX11_isMatch 116 = .ok (.getfield 7, 3) := by decide +kernel
theorem dX11_isMatch_119 : decode cX11_isMatch 119 = .ok (.iload_n 1, 1) := by decide +kernel
theorem dX11_isMatch_120 : decode cX11_isMatch 120 = .ok (.baload, 1) := by decide +kernel
theorem dX11_isMatch_121 : decode cX11_isMatch 121 = .ok (.ifCond .eq 26, 3) := by decide +kernel
theorem dX11_isMatch_124 : decode cX11_isMatch 124 = .ok (.aload_n 0, 1) := by decide +kernel
theorem dX11_isMatch_125 : decode cX11_isMatch 125 = .ok (.getfield 108, 3) := by decide +kernel
theorem dX11_isMatch_128 : decode cX11_isMatch 128 = .ok (.aload_n 0, 1) := by decide +kernel
theorem dX11_isMatch_129 : decode cX11_isMatch 129 = .ok (.getfield 111, 3) := by decide +kernel
theorem dX11_isMatch_132 : decode cX11_isMatch 132 = .ok (.iload_n 2, 1) := by decide +kernel
theorem dX11_isMatch_133 : decode cX11_isMatch 133 = .ok (.aload_n 0, 1) := by decide +kernel
theorem dX11_isMatch_134 : decode cX11_isMatch 134 = .ok (.getfield 105, 3) := by decide +kernel
theorem dX11_isMatch_137 : decode cX11_isMatch 137 = .ok (.invokestatic 114, 3) := by decide +kernel
theorem dX11_isMatch_140 : decode cX11_isMatch 140 = .ok (.ifCond .eq 7, 3) := by decide +kernel
theorem dX11_isMatch_143 : decode cX11_isMatch 143 = .ok (.iconst 1, 1) := by decide +kernel
theorem dX11_isMatch_144 : decode cX11_isMatch 144 = .ok (.goto 4, 3) := by decide +kernel
theorem dX11_isMatch_147 : decode cX11_isMatch 147 = .ok (.iconst 0, 1) := by decide +kernel
theorem dX11_isMatch_148 : decode cX11_isMatch 148 = .ok (.ireturn, 1) := by decide +kernel
theorem dX11_matches_0 : decode cX11_matches 0 = .ok (.aload_n 0, 1) := by decide +kernel
theorem dX11_matches_1 : decode cX11_matches 1 = .ok (.iload_n 1, 1) := by decide +kernel
theorem dX11_matches_2 : decode cX11_matches 2 = .ok (.invokestatic 82, 3) := by decide +kernel
theorem dX11_matches_5 : decode cX11_matches 5 = .ok (.iconst 1, 1) := by decide +kernel
theorem dX11_matches_6 : decode cX11_matches 6 = .ok (.iconst 1, 1) := by decide +kernel
theorem dX11_matches_7 : decode cX11_matches 7 = .ok (.invokevirtual 86, 3) := by decide +kernel
theorem dX11_matches_10 : decode cX11_matches 10 = .ok (.ifCond .eq 15, 3) := by decide +kernel
theorem dX11_matches_13 : decode cX11_matches 13 = .ok (.aload_n 0, 1) := by decide +kernel
theorem dX11_matches_14 : decode cX11_matches 14 = .ok (.iload_n 1, 1) := by decide +kernel
theorem dX11_matches_15 : decode cX11_matches 15 = .ok (.invokevirtual 118, 3) := by decide +kernel
theorem dX11_matches_18 : decode cX11_matches 18 = .ok (.ifCond .eq 7, 3) := by decide +kernel
theorem dX11_matches_21 : decode cX11_matches 21 = .ok (.iconst 1, 1) := by decide +kernel
theorem dX11_matches_22 : decode cX11_matches 22 = .ok (.goto 4, 3) := by decide +kernel
theorem dX11_matches_25 : decode cX11_matches 25 = .ok (.iconst 0, 1) := by decide +kernel
theorem dX11_matches_26 : decode cX11_matches 26 = .ok (.ireturn, 1) := by decide +kernel
theorem dX11_hits_0 : decode cX11_hits 0 = .ok (.aload_n 0, 1) := by decide +kernel
theorem dX11_hits_1 : decode cX11_hits 1 = .ok (.iconst 0, 1) := by decide +kernel
theorem dX11_hits_2 : decode cX11_hits 2 = .ok (.putfield 74, 3) := by decide +kernel
theorem dX11_hits_5 : decode cX11_hits 5 = .ok (.iconst 0, 1) := by decide +kernel
theorem dX11_hits_6 : decode cX11_hits 6 = .ok (.istore_n 1, 1) := by decide +kernel
theorem dX11_hits_7 : decode cX11_hits 7 = .ok (.iconst 0, 1) := by decide +kernel
theorem dX11_hits_8 : decode cX11_hits 8 = .ok (.istore_n 2, 1) := by decide +kernel
theorem dX11_hits_9 : decode cX11_hits 9 = .ok (.iload_n 2, 1) := by decide +kernel
theorem dX11_hits_10 : decode cX11_hits 10 = .ok (.bipush 40, 2) := by decide +kernel
theorem dX11_hits_12 : decode cX11_hits 12 = .ok (.if_icmp .ge 25, 3) := by decide +kernel
theorem dX11_hits_15 : decode cX11_hits 15 = .ok (.iload_n 1, 1) := by decide +kernel
theorem dX11_hits_16 : decode cX11_hits 16 = .ok (.aload_n 0, 1) := by decide +kernel
theorem dX11_hits_17 : decode cX11_hits 17 = .ok (.iload_n 2, 1) := by decide +kernel
theorem dX11_hits_18 : decode cX11_hits 18 = .ok (.invokevirtual 118, 3) := by decide +kernel
theorem dX11_hits_21 : decode cX11_hits 21 = .ok (.ifCond .eq 7, 3) := by decide +kernel
theorem dX11_hits_24 : decode cX11_hits 24 = .ok (.iconst 1, 1) := by decide +kernel
theorem dX11_hits_25 : decode cX11_hits 25 = .ok (.goto 4, 3) := by decide +kernel
theorem dX11_hits_28 : decode cX11_hits 28 = .ok (.iconst 0, 1) := by decide +kernel
theorem dX11_hits_29 : decode cX11_hits 29 = .ok (.iadd, 1) := by decide +kernel
theorem dX11_hits_30 : decode cX11_hits 30 = .ok (.istore_n 1, 1) := by decide +kernel
theorem dX11_hits_31 : decode cX11_hits 31 = .ok (.iinc 2 1, 3) := by decide +kernel
theorem dX11_hits_34 : decode cX11_hits 34 = .ok (.goto (-25), 3) := by decide +kernel
theorem dX11_hits_37 : decode cX11_hits 37 = .ok (.iload_n 1, 1) := by decide +kernel
theorem dX11_hits_38 : decode cX11_hits 38 = .ok (.ireturn, 1) := by decide +kernel
theorem dX11_some_0 : decode cX11_some 0 = .ok (.iload_n 0, 1) := by decide +kernel
theorem dX11_some_1 : decode cX11_some 1 = .ok (.ifCond .gt 7, 3) := by decide +kernel
theorem dX11_some_4 : decode cX11_some 4 = .ok (.iconst 3, 1) := by decide +kernel
theorem dX11_some_5 : decode cX11_some 5 = .ok (.goto 31, 3) := by decide +kernel
theorem dX11_some_8 : decode cX11_some 8 = .ok (.iload_n 0, 1) := by decide +kernel
theorem dX11_some_9 : decode cX11_some 9 = .ok (.iload_n 1, 1) := by decide +kernel
theorem dX11_some_10 : decode cX11_some 10 = .ok (.if_icmp .le 7, 3) := by decide +kernel
theorem dX11_some_13 : decode cX11_some 13 = .ok (.iconst 4, 1) := by decide +kernel
theorem dX11_some_14 : decode cX11_some 14 = .ok (.goto 22, 3) := by decide +kernel
theorem dX11_some_17 : decode cX11_some 17 = .ok (.iload_n 0, 1) := by decide +kernel
theorem dX11_some_18 : decode cX11_some 18 = .ok (.iconst 1, 1) := by decide +kernel
theorem dX11_some_19 : decode cX11_some 19 = .ok (.if_icmp .ne 7, 3) := by decide +kernel
theorem dX11_some_22 : decode cX11_some 22 = .ok (.iconst 1, 1) := by decide +kernel
theorem dX11_some_23 : decode cX11_some 23 = .ok (.goto 13, 3) := by decide +kernel
theorem dX11_some_26 : decode cX11_some 26 = .ok (.iload_n 0, 1) := by decide +kernel
theorem dX11_some_27 : decode cX11_some 27 = .ok (.iload_n 1, 1) := by decide +kernel
theorem dX11_some_28 : decode cX11_some 28 = .ok (.if_icmp .ne 7, 3) := by decide +kernel
theorem dX11_some_31 : decode cX11_some 31 = .ok (.iconst 0, 1) := by decide +kernel
theorem dX11_some_32 : decode cX11_some 32 = .ok (.goto 4, 3) := by decide +kernel
theorem dX11_some_35 : decode cX11_some 35 = .ok (.iconst 2, 1) := by decide +kernel
theorem dX11_some_36 : decode cX11_some 36 = .ok (.ireturn, 1) := by decide +kernel
theorem dX11_plainly_0 : decode cX11_plainly 0 = .ok (.aload_n 0, 1) := by decide +kernel
theorem dX11_plainly_1 : decode cX11_plainly 1 = .ok (.getfield 17, 3) := by decide +kernel
theorem dX11_plainly_4 : decode cX11_plainly 4 = .ok (.iload_n 1, 1) := by decide +kernel
theorem dX11_plainly_5 : decode cX11_plainly 5 = .ok (.iaload, 1) := by decide +kernel
theorem dX11_plainly_6 : decode cX11_plainly 6 = .ok (.istore_n 2, 1) := by decide +kernel
theorem dX11_plainly_7 : decode cX11_plainly 7 = .ok (.aload_n 0, 1) := by decide +kernel
theorem dX11_plainly_8 : decode cX11_plainly 8 = .ok (.getfield 20, 3) := by decide +kernel
theorem dX11_plainly_11 : decode cX11_plainly 11 = .ok (.iload_n 1, 1) := by decide +kernel
theorem dX11_plainly_12 : decode cX11_plainly 12 = .ok (.iaload, 1) := by decide +kernel
theorem dX11_plainly_13 : decode cX11_plainly 13 = .ok (.istore_n 3, 1) := by decide +kernel
theorem dX11_plainly_14 : decode cX11_plainly 14 = .ok (.aload_n 0, 1) := by decide +kernel
theorem dX11_plainly_15 : decode cX11_plainly 15 = .ok (.getfield 38, 3) := by decide +kernel
theorem dX11_plainly_18 : decode cX11_plainly 18 = .ok (.iload_n 1, 1) := by decide +kernel
theorem dX11_plainly_19 : decode cX11_plainly 19 = .ok (.aload_n 0, 1) := by decide +kernel
theorem dX11_plainly_20 : decode cX11_plainly 20 = .ok (.getfield 26, 3) := by decide +kernel
theorem dX11_plainly_23 : decode cX11_plainly 23 = .ok (.iload_n 1, 1) := by decide +kernel
theorem dX11_plainly_24 : decode cX11_plainly 24 = .ok (.iaload, 1) := by decide +kernel
theorem dX11_plainly_25 : decode cX11_plainly 25 = .ok (.iastore, 1) := by decide +kernel
theorem dX11_plainly_26 : decode cX11_plainly 26 = .ok (.iconst 0, 1) := by decide +kernel
theorem dX11_plainly_27 : decode cX11_plainly 27 = .ok (.istore 4, 2) := by decide +kernel
theorem dX11_plainly_29 : decode cX11_plainly 29 = .ok (.iload 4, 2) := by decide +kernel
theorem dX11_plainly_31 : decode cX11_plainly 31 = .ok (.aload_n 0, 1) := by decide +kernel
theorem dX11_plainly_32 : decode cX11_plainly 32 = .ok (.getfield 26, 3) := by decide +kernel
theorem dX11_plainly_35 : decode cX11_plainly 35 = .ok (.iload_n 1, 1) := by decide +kernel
theorem dX11_plainly_36 : decode cX11_plainly 36 = .ok (.iaload, 1) := by decide +kernel
theorem dX11_plainly_37 : decode cX11_plainly 37 = .ok (.if_icmp .ge 67, 3) := by decide +kernel
theorem dX11_plainly_40 : decode cX11_plainly 40 = .ok (.aload_n 0, 1) := by decide +kernel
theorem dX11_plainly_41 : decode cX11_plainly 41 = .ok (.getfield 29, 3) := by decide +kernel
theorem dX11_plainly_44 : decode cX11_plainly 44 = .ok (.bipush 6, 2) := by decide +kernel
theorem dX11_plainly_46 : decode cX11_plainly 46 = .ok (.iload_n 1, 1) := by decide +kernel
theorem dX11_plainly_47 : decode cX11_plainly 47 = .ok (.imul, 1) := by decide +kernel
theorem dX11_plainly_48 : decode cX11_plainly 48 = .ok (.iload 4, 2) := by decide +kernel
theorem dX11_plainly_50 : decode cX11_plainly 50 = .ok (.iadd, 1) := by decide +kernel
theorem dX11_plainly_51 : decode cX11_plainly 51 = .ok (.iaload, 1) := by decide +kernel
theorem dX11_plainly_52 : decode cX11_plainly 52 = .ok (.istore 5, 2) := by decide +kernel
theorem dX11_plainly_54 : decode cX11_plainly 54 = .ok (.aload_n 0, 1) := by decide +kernel
theorem dX11_plainly_55 : decode cX11_plainly 55 = .ok (.getfield 41, 3) := by decide +kernel
theorem dX11_plainly_58 : decode cX11_plainly 58 = .ok (.bipush 6, 2) := by decide +kernel
theorem dX11_plainly_60 : decode cX11_plainly 60 = .ok (.iload_n 1, 1) := by decide +kernel
theorem dX11_plainly_61 : decode cX11_plainly 61 = .ok (.imul, 1) := by decide +kernel
theorem dX11_plainly_62 : decode cX11_plainly 62 = .ok (.iload 4, 2) := by decide +kernel
theorem dX11_plainly_64 : decode cX11_plainly 64 = .ok (.iadd, 1) := by decide +kernel
theorem dX11_plainly_65 : decode cX11_plainly 65 = .ok (.aload_n 0, 1) := by decide +kernel
theorem dX11_plainly_66 : decode cX11_plainly 66 = .ok (.getfield 23, 3) := by decide +kernel
theorem dX11_plainly_69 : decode cX11_plainly 69 = .ok (.iload_n 1, 1) := by decide +kernel
theorem dX11_plainly_70 : decode cX11_plainly 70 = .ok (.baload, 1) := by decide +kernel
theorem dX11_plainly_71 : decode cX11_plainly 71 = .ok (.ifCond .eq 24, 3) := by decide +kernel
theorem dX11_plainly_74 : decode cX11_plainly 74 = .ok (.iload 5, 2) := by decide +kernel
theorem dX11_plainly_76 : decode cX11_plainly 76 = .ok (.iconst 2, 1) := by decide +kernel
theorem dX11_plainly_77 : decode cX11_plainly 77 = .ok (.irem, 1) := by decide +kernel
theorem dX11_plainly_78 : decode cX11_plainly 78 = .ok (.ifCond .ne 10, 3) := by decide +kernel
theorem dX11_plainly_81 : decode cX11_plainly 81 = .ok (.iload 5, 2) := by decide +kernel
theorem dX11_plainly_83 : decode cX11_plainly 83 = .ok (.iconst 1, 1) := by decide +kernel
theorem dX11_plainly_84 : decode cX11_plainly 84 = .ok (.iadd, 1) := by decide +kernel
theorem dX11_plainly_85 : decode cX11_plainly 85 = .ok (.goto 12, 3) := by decide +kernel
theorem dX11_plainly_88 : decode cX11_plainly 88 = .ok (.iload 5, 2) := by decide +kernel
theorem dX11_plainly_90 : decode cX11_plainly 90 = .ok (.iconst 1, 1) := by decide +kernel
theorem dX11_plainly_91 : decode cX11_plainly 91 = .ok (.isub, 1) := by decide +kernel
theorem dX11_plainly_92 : decode cX11_plainly 92 = .ok (.goto 5, 3) := by decide +kernel
theorem dX11_plainly_95 : decode cX11_plainly 95 = .ok (.iload 5, 2) := by decide +kernel
theorem dX11_plainly_97 : decode cX11_plainly 97 = .ok (.iastore, 1) := by decide +kernel
theorem dX11_plainly_98 : decode cX11_plainly 98 = .ok (.iinc 4 1, 3) := by decide +kernel
theorem dX11_plainly_101 : decode cX11_plainly 101 = .ok (.goto (-72), 3) := by decide +kernel
theorem dX11_plainly_104 : decode cX11_plainly 104 = .ok (.aload_n 0, 1) := by decide +kernel
theorem dX11_plainly_105 : decode cX11_plainly 105 = .ok (.getfield 23, 3) := by decide +kernel
theorem dX11_plainly_108 : decode cX11_plainly 108 = .ok (.iload_n 1, 1) := by decide +kernel
theorem dX11_plainly_109 : decode cX11_plainly 109 = .ok (.baload, 1) := by decide +kernel
theorem dX11_plainly_110 : decode cX11_plainly 110 = .ok (.ifCond .eq 33, 3) := by decide +kernel
theorem dX11_plainly_113 : decode cX11_plainly 113 = .ok (.aload_n 0, 1) := by decide +kernel
theorem dX11_plainly_114 : decode cX11_plainly 114 = .ok (.getfield 26, 3) := by decide +kernel
theorem dX11_plainly_117 : decode cX11_plainly 117 = .ok (.iload_n 1, 1) := by decide +kernel
theorem dX11_plainly_118 : decode cX11_plainly 118 = .ok (.iaload, 1) := by decide +kernel
theorem dX11_plainly_119 : decode cX11_plainly 119 = .ok (.iload_n 3, 1) := by decide +kernel
theorem dX11_plainly_120 : decode cX11_plainly 120 = .ok (.isub, 1) := by decide +kernel
theorem dX11_plainly_121 : decode cX11_plainly 121 = .ok (.iconst 1, 1) := by decide +kernel
theorem dX11_plainly_122 : decode cX11_plainly 122 = .ok (.iadd, 1) := by decide +kernel
theorem dX11_plainly_123 : decode cX11_plainly 123 = .ok (.istore_n 3, 1) := by decide +kernel
theorem dX11_plainly_124 : decode cX11_plainly 124 = .ok (.iload_n 2, 1) := by decide +kernel
theorem dX11_plainly_125 : decode cX11_plainly 125 = .ok (.ifCond .ne 7, 3) := by decide +kernel
theorem dX11_plainly_128 : decode cX11_plainly 128 = .ok (.iconst 1, 1) := by decide +kernel
theorem dX11_plainly_129 : decode cX11_plainly 129 = .ok (.goto 13, 3) := by decide +kernel
theorem dX11_plainly_132 : decode cX11_plainly 132 = .ok (.iload_n 2, 1) := by decide +kernel
theorem dX11_plainly_133 : decode cX11_plainly 133 = .ok (.iconst 1, 1) := by decide +kernel
theorem dX11_plainly_134 : decode cX11_plainly 134 = .ok (.if_icmp .ne 7, 3) := by decide +kernel
theorem dX11_plainly_137 : decode cX11_plainly 137 = .ok (.iconst 0, 1) := by decide +kernel
theorem dX11_plainly_138 : decode cX11_plainly 138 = .ok (.goto 4, 3) := by decide +kernel
theorem dX11_plainly_141 : decode cX11_plainly 141 = .ok (.iconst 2, 1) := by decide +kernel
theorem dX11_plainly_142 : decode cX11_plainly 142 = .ok (.istore_n 2, 1) := by decide +kernel
theorem dX11_plainly_143 : decode cX11_plainly 143 = .ok (.aload_n 0, 1) := by decide +kernel
theorem dX11_plainly_144 : decode cX11_plainly 144 = .ok (.getfield 32, 3) := by decide +kernel
theorem dX11_plainly_147 : decode cX11_plainly 147 = .ok (.iload_n 1, 1) := by decide +kernel
theorem dX11_plainly_148 : decode cX11_plainly 148 = .ok (.iload_n 2, 1) := by decide +kernel
theorem dX11_plainly_149 : decode cX11_plainly 149 = .ok (.iconst 2, 1) := by decide +kernel
theorem dX11_plainly_150 : decode cX11_plainly 150 = .ok (.if_icmp .ne 16, 3) := by decide +kernel
theorem dX11_plainly_153 : decode cX11_plainly 153 = .ok (.iload_n 3, 1) := by decide +kernel
theorem dX11_plainly_154 : decode cX11_plainly 154 = .ok (.aload_n 0, 1) := by decide +kernel
theorem dX11_plainly_155 : decode cX11_plainly 155 = .ok (.getfield 26, 3) := by decide +kernel
theorem dX11_plainly_158 : decode cX11_plainly 158 = .ok (.iload_n 1, 1) := by decide +kernel
theorem dX11_plainly_159 : decode cX11_plainly 159 = .ok (.iaload, 1) := by decide +kernel
