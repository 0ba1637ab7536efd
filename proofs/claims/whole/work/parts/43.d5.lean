theorem dX11_literalAt_36 : decode cX11_literalAt 36 = .ok (.iload_n 3, 1) := by decide +kernel
theorem dX11_literalAt_37 : decode cX11_literalAt 37 = .ok (.iconst 1, 1) := by decide +kernel
theorem dX11_literalAt_38 : decode cX11_literalAt 38 = .ok (.iconst 1, 1) := by decide +kernel
theorem dX11_literalAt_39 : decode cX11_literalAt 39 = .ok (.invokevirtual 86, 3) := by decide +kernel
theorem dX11_literalAt_42 : decode cX11_literalAt 42 = .ok (.ifCond .eq 22, 3) := by decide +kernel
theorem dX11_literalAt_45 : decode cX11_literalAt 45 = .ok (.aload_n 0, 1) := by decide +kernel
theorem dX11_literalAt_46 : decode cX11_literalAt 46 = .ok (.getfield 41, 3) := by decide +kernel
theorem dX11_literalAt_49 : decode cX11_literalAt 49 = .ok (.bipush 6, 2) := by decide +kernel
theorem dX11_literalAt_51 : decode cX11_literalAt 51 = .ok (.aload_n 0, 1) := by decide +kernel
theorem dX11_literalAt_52 : decode cX11_literalAt 52 = .ok (.getfield 47, 3) := by decide +kernel
theorem dX11_literalAt_55 : decode cX11_literalAt 55 = .ok (.iload_n 1, 1) := by decide +kernel
theorem dX11_literalAt_56 : decode cX11_literalAt 56 = .ok (.iaload, 1) := by decide +kernel
theorem dX11_literalAt_57 : decode cX11_literalAt 57 = .ok (.imul, 1) := by decide +kernel
theorem dX11_literalAt_58 : decode cX11_literalAt 58 = .ok (.iload_n 2, 1) := by decide +kernel
theorem dX11_literalAt_59 : decode cX11_literalAt 59 = .ok (.iadd, 1) := by decide +kernel
theorem dX11_literalAt_60 : decode cX11_literalAt 60 = .ok (.iaload, 1) := by decide +kernel
theorem dX11_literalAt_61 : decode cX11_literalAt 61 = .ok (.goto 4, 3) := by decide +kernel
theorem dX11_literalAt_64 : decode cX11_literalAt 64 = .ok (.iconst 0, 1) := by decide +kernel
theorem dX11_literalAt_65 : decode cX11_literalAt 65 = .ok (.ireturn, 1) := by decide +kernel
theorem dX11_begin_0 : decode cX11_begin 0 = .ok (.aload_n 0, 1) := by decide +kernel
theorem dX11_begin_1 : decode cX11_begin 1 = .ok (.iconst 0, 1) := by decide +kernel
theorem dX11_begin_2 : decode cX11_begin 2 = .ok (.putfield 74, 3) := by decide +kernel
theorem dX11_begin_5 : decode cX11_begin 5 = .ok (.aload_n 0, 1) := by decide +kernel
theorem dX11_begin_6 : decode cX11_begin 6 = .ok (.invokevirtual 156, 3) := by decide +kernel
theorem dX11_begin_9 : decode cX11_begin 9 = .ok (.aload_n 0, 1) := by decide +kernel
theorem dX11_begin_10 : decode cX11_begin 10 = .ok (.iconst 1, 1) := by decide +kernel
theorem dX11_begin_11 : decode cX11_begin 11 = .ok (.putfield 165, 3) := by decide +kernel
theorem dX11_begin_14 : decode cX11_begin 14 = .ok (.iconst 0, 1) := by decide +kernel
theorem dX11_begin_15 : decode cX11_begin 15 = .ok (.istore_n 1, 1) := by decide +kernel
theorem dX11_begin_16 : decode cX11_begin 16 = .ok (.iload_n 1, 1) := by decide +kernel
theorem dX11_begin_17 : decode cX11_begin 17 = .ok (.bipush 40, 2) := by decide +kernel
theorem dX11_begin_19 : decode cX11_begin 19 = .ok (.if_icmp .ge 33, 3) := by decide +kernel
theorem dX11_begin_22 : decode cX11_begin 22 = .ok (.aload_n 0, 1) := by decide +kernel
theorem dX11_begin_23 : decode cX11_begin 23 = .ok (.getfield 50, 3) := by decide +kernel
theorem dX11_begin_26 : decode cX11_begin 26 = .ok (.iload_n 1, 1) := by decide +kernel
theorem dX11_begin_27 : decode cX11_begin 27 = .ok (.aload_n 0, 1) := by decide +kernel
theorem dX11_begin_28 : decode cX11_begin 28 = .ok (.getfield 7, 3) := by decide +kernel
theorem dX11_begin_31 : decode cX11_begin 31 = .ok (.iload_n 1, 1) := by decide +kernel
theorem dX11_begin_32 : decode cX11_begin 32 = .ok (.baload, 1) := by decide +kernel
theorem dX11_begin_33 : decode cX11_begin 33 = .ok (.bastore, 1) := by decide +kernel
theorem dX11_begin_34 : decode cX11_begin 34 = .ok (.aload_n 0, 1) := by decide +kernel
theorem dX11_begin_35 : decode cX11_begin 35 = .ok (.getfield 53, 3) := by decide +kernel
theorem dX11_begin_38 : decode cX11_begin 38 = .ok (.iload_n 1, 1) := by decide +kernel
theorem dX11_begin_39 : decode cX11_begin 39 = .ok (.aload_n 0, 1) := by decide +kernel
theorem dX11_begin_40 : decode cX11_begin 40 = .ok (.getfield 13, 3) := by decide +kernel
theorem dX11_begin_43 : decode cX11_begin 43 = .ok (.iload_n 1, 1) := by decide +kernel
theorem dX11_begin_44 : decode cX11_begin 44 = .ok (.iaload, 1) := by decide +kernel
theorem dX11_begin_45 : decode cX11_begin 45 = .ok (.iastore, 1) := by decide +kernel
theorem dX11_begin_46 : decode cX11_begin 46 = .ok (.iinc 1 1, 3) := by decide +kernel
theorem dX11_begin_49 : decode cX11_begin 49 = .ok (.goto (-33), 3) := by decide +kernel
theorem dX11_begin_52 : decode cX11_begin 52 = .ok (.aload_n 0, 1) := by decide +kernel
theorem dX11_begin_53 : decode cX11_begin 53 = .ok (.aload_n 0, 1) := by decide +kernel
theorem dX11_begin_54 : decode cX11_begin 54 = .ok (.getfield 135, 3) := by decide +kernel
theorem dX11_begin_57 : decode cX11_begin 57 = .ok (.putfield 169, 3) := by decide +kernel
theorem dX11_begin_60 : decode cX11_begin 60 = .ok (.aload_n 0, 1) := by decide +kernel
theorem dX11_begin_61 : decode cX11_begin 61 = .ok (.aload_n 0, 1) := by decide +kernel
theorem dX11_begin_62 : decode cX11_begin 62 = .ok (.getfield 138, 3) := by decide +kernel
theorem dX11_begin_65 : decode cX11_begin 65 = .ok (.putfield 172, 3) := by decide +kernel
theorem dX11_begin_68 : decode cX11_begin 68 = .ok (.aload_n 0, 1) := by decide +kernel
theorem dX11_begin_69 : decode cX11_begin 69 = .ok (.aload_n 0, 1) := by decide +kernel
theorem dX11_begin_70 : decode cX11_begin 70 = .ok (.getfield 141, 3) := by decide +kernel
theorem dX11_begin_73 : decode cX11_begin 73 = .ok (.putfield 175, 3) := by decide +kernel
theorem dX11_begin_76 : decode cX11_begin 76 = .ok (.iconst 0, 1) := by decide +kernel
theorem dX11_begin_77 : decode cX11_begin 77 = .ok (.istore_n 1, 1) := by decide +kernel
theorem dX11_begin_78 : decode cX11_begin 78 = .ok (.iload_n 1, 1) := by decide +kernel
theorem dX11_begin_79 : decode cX11_begin 79 = .ok (.aload_n 0, 1) := by decide +kernel
theorem dX11_begin_80 : decode cX11_begin 80 = .ok (.getfield 141, 3) := by decide +kernel
theorem dX11_begin_83 : decode cX11_begin 83 = .ok (.if_icmp .ge 111, 3) := by decide +kernel
theorem dX11_begin_86 : decode cX11_begin 86 = .ok (.aload_n 0, 1) := by decide +kernel
theorem dX11_begin_87 : decode cX11_begin 87 = .ok (.getfield 47, 3) := by decide +kernel
theorem dX11_begin_90 : decode cX11_begin 90 = .ok (.iload_n 1, 1) := by decide +kernel
theorem dX11_begin_91 : decode cX11_begin 91 = .ok (.iaload, 1) := by decide +kernel
theorem dX11_begin_92 : decode cX11_begin 92 = .ok (.istore_n 2, 1) := by decide +kernel
theorem dX11_begin_93 : decode cX11_begin 93 = .ok (.aload_n 0, 1) := by decide +kernel
theorem dX11_begin_94 : decode cX11_begin 94 = .ok (.getfield 56, 3) := by decide +kernel
theorem dX11_begin_97 : decode cX11_begin 97 = .ok (.iload_n 1, 1) := by decide +kernel
theorem dX11_begin_98 : decode cX11_begin 98 = .ok (.aload_n 0, 1) := by decide +kernel
theorem dX11_begin_99 : decode cX11_begin 99 = .ok (.getfield 32, 3) := by decide +kernel
theorem dX11_begin_102 : decode cX11_begin 102 = .ok (.iload_n 2, 1) := by decide +kernel
theorem dX11_begin_103 : decode cX11_begin 103 = .ok (.iaload, 1) := by decide +kernel
theorem dX11_begin_104 : decode cX11_begin 104 = .ok (.iastore, 1) := by decide +kernel
theorem dX11_begin_105 : decode cX11_begin 105 = .ok (.aload_n 0, 1) := by decide +kernel
theorem dX11_begin_106 : decode cX11_begin 106 = .ok (.getfield 59, 3) := by decide +kernel
theorem dX11_begin_109 : decode cX11_begin 109 = .ok (.iload_n 1, 1) := by decide +kernel
theorem dX11_begin_110 : decode cX11_begin 110 = .ok (.aload_n 0, 1) := by decide +kernel
theorem dX11_begin_111 : decode cX11_begin 111 = .ok (.getfield 35, 3) := by decide +kernel
theorem dX11_begin_114 : decode cX11_begin 114 = .ok (.iload_n 2, 1) := by decide +kernel
theorem dX11_begin_115 : decode cX11_begin 115 = .ok (.iaload, 1) := by decide +kernel
theorem dX11_begin_116 : decode cX11_begin 116 = .ok (.iastore, 1) := by decide +kernel
theorem dX11_begin_117 : decode cX11_begin 117 = .ok (.aload_n 0, 1) := by decide +kernel
theorem dX11_begin_118 : decode cX11_begin 118 = .ok (.getfield 62, 3) := by decide +kernel
theorem dX11_begin_121 : decode cX11_begin 121 = .ok (.iload_n 1, 1) := by decide +kernel
theorem dX11_begin_122 : decode cX11_begin 122 = .ok (.aload_n 0, 1) := by decide +kernel
theorem dX11_begin_123 : decode cX11_begin 123 = .ok (.getfield 38, 3) := by decide +kernel
theorem dX11_begin_126 : decode cX11_begin 126 = .ok (.iload_n 2, 1) := by decide +kernel
theorem dX11_begin_127 : decode cX11_begin 127 = .ok (.iaload, 1) := by decide +kernel
theorem dX11_begin_128 : decode cX11_begin 128 = .ok (.iastore, 1) := by decide +kernel
theorem dX11_begin_129 : decode cX11_begin 129 = .ok (.aload_n 0, 1) := by decide +kernel
theorem dX11_begin_130 : decode cX11_begin 130 = .ok (.getfield 71, 3) := by decide +kernel
theorem dX11_begin_133 : decode cX11_begin 133 = .ok (.iload_n 1, 1) := by decide +kernel
theorem dX11_begin_134 : decode cX11_begin 134 = .ok (.iconst (-1), 1) := by decide +kernel
theorem dX11_begin_135 : decode cX11_begin 135 = .ok (.iastore, 1) := by decide +kernel
theorem dX11_begin_136 : decode cX11_begin 136 = .ok (.iconst 0, 1) := by decide +kernel
theorem dX11_begin_137 : decode cX11_begin 137 = .ok (.istore_n 3, 1) := by decide +kernel
theorem dX11_begin_138 : decode cX11_begin 138 = .ok (.iload_n 3, 1) := by decide +kernel
theorem dX11_begin_139 : decode cX11_begin 139 = .ok (.aload_n 0, 1) := by decide +kernel
theorem dX11_begin_140 : decode cX11_begin 140 = .ok (.getfield 38, 3) := by decide +kernel
theorem dX11_begin_143 : decode cX11_begin 143 = .ok (.iload_n 2, 1) := by decide +kernel
theorem dX11_begin_144 : decode cX11_begin 144 = .ok (.iaload, 1) := by decide +kernel
theorem dX11_begin_145 : decode cX11_begin 145 = .ok (.if_icmp .ge 43, 3) := by decide +kernel
theorem dX11_begin_148 : decode cX11_begin 148 = .ok (.aload_n 0, 1) := by decide +kernel
theorem dX11_begin_149 : decode cX11_begin 149 = .ok (.getfield 65, 3) := by decide +kernel
theorem dX11_begin_152 : decode cX11_begin 152 = .ok (.bipush 6, 2) := by decide +kernel
theorem dX11_begin_154 : decode cX11_begin 154 = .ok (.iload_n 1, 1) := by decide +kernel
theorem dX11_begin_155 : decode cX11_begin 155 = .ok (.imul, 1) := by decide +kernel
theorem dX11_begin_156 : decode cX11_begin 156 = .ok (.iload_n 3, 1) := by decide +kernel
theorem dX11_begin_157 : decode cX11_begin 157 = .ok (.iadd, 1) := by decide +kernel
theorem dX11_begin_158 : decode cX11_begin 158 = .ok (.aload_n 0, 1) := by decide +kernel
theorem dX11_begin_159 : decode cX11_begin 159 = .ok (.getfield 41, 3) := by decide +kernel
theorem dX11_begin_162 : decode cX11_begin 162 = .ok (.bipush 6, 2) := by decide +kernel
theorem dX11_begin_164 : decode cX11_begin 164 = .ok (.iload_n 2, 1) := by decide +kernel
theorem dX11_begin_165 : decode cX11_begin 165 = .ok (.imul, 1) := by decide +kernel
theorem dX11_begin_166 : decode cX11_begin 166 = .ok (.iload_n 3, 1) := by decide +kernel
theorem dX11_begin_167 : decode cX11_begin 167 = .ok (.iadd, 1) := by decide +kernel
theorem dX11_begin_168 : decode cX11_begin 168 = .ok (.iaload, 1) := by decide +kernel
theorem dX11_begin_169 : decode cX11_begin 169 = .ok (.iastore, 1) := by decide +kernel
theorem dX11_begin_170 : decode cX11_begin 170 = .ok (.aload_n 0, 1) := by decide +kernel
theorem dX11_begin_171 : decode cX11_begin 171 = .ok (.getfield 68, 3) := by decide +kernel
theorem dX11_begin_174 : decode cX11_begin 174 = .ok (.bipush 6, 2) := by decide +kernel
theorem dX11_begin_176 : decode cX11_begin 176 = .ok (.iload_n 1, 1) := by decide +kernel
theorem dX11_begin_177 : decode cX11_begin 177 = .ok (.imul, 1) := by decide +kernel
theorem dX11_begin_178 : decode cX11_begin 178 = .ok (.iload_n 3, 1) := by decide +kernel
theorem dX11_begin_179 : decode cX11_begin 179 = .ok (.iadd, 1) := by decide +kernel
theorem dX11_begin_180 : decode cX11_begin 180 = .ok (.iconst (-1), 1) := by decide +kernel
theorem dX11_begin_181 : decode cX11_begin 181 = .ok (.iastore, 1) := by decide +kernel
theorem dX11_begin_182 : decode cX11_begin 182 = .ok (.iinc 3 1, 3) := by decide +kernel
theorem dX11_begin_185 : decode cX11_begin 185 = .ok (.goto (-47), 3) := by decide +kernel
theorem dX11_begin_188 : decode cX11_begin 188 = .ok (.iinc 1 1, 3) := by decide +kernel
theorem dX11_begin_191 : decode cX11_begin 191 = .ok (.goto (-113), 3) := by decide +kernel
theorem dX11_begin_194 : decode cX11_begin 194 = .ok (.aload_n 0, 1) := by decide +kernel
theorem dX11_begin_195 : decode cX11_begin 195 = .ok (.iconst (-1), 1) := by decide +kernel
theorem dX11_begin_196 : decode cX11_begin 196 = .ok (.putfield 178, 3) := by decide +kernel
theorem dX11_begin_199 : decode cX11_begin 199 = .ok (.aload_n 0, 1) := by decide +kernel
theorem dX11_begin_200 : decode cX11_begin 200 = .ok (.iconst 0, 1) := by decide +kernel
theorem dX11_begin_201 : decode cX11_begin 201 = .ok (.putfield 181, 3) := by decide +kernel
theorem dX11_begin_204 : decode cX11_begin 204 = .ok (.aload_n 0, 1) := by decide +kernel
theorem dX11_begin_205 : decode cX11_begin 205 = .ok (.iconst 0, 1) := by decide +kernel
theorem dX11_begin_206 : decode cX11_begin 206 = .ok (.putfield 184, 3) := by decide +kernel
theorem dX11_begin_209 : decode cX11_begin 209 = .ok (.aload_n 0, 1) := by decide +kernel
theorem dX11_begin_210 : decode cX11_begin 210 = .ok (.invokevirtual 159, 3) := by decide +kernel
theorem dX11_begin_213 : decode cX11_begin 213 = .ok (.ireturn, 1) := by decide +kernel
theorem dX11_seeksLiteral_0 : decode cX11_seeksLiteral 0 = .ok (.aload_n 0, 1) := by decide +kernel
theorem dX11_seeksLiteral_1 : decode cX11_seeksLiteral 1 = .ok (.getfield 68, 3) := by decide +kernel
theorem dX11_seeksLiteral_4 : decode cX11_seeksLiteral 4 = .ok (.iload_n 1, 1) := by decide +kernel
theorem dX11_seeksLiteral_5 : decode cX11_seeksLiteral 5 = .ok (.iaload, 1) := by decide +kernel
theorem dX11_seeksLiteral_6 : decode cX11_seeksLiteral 6 = .ok (.iload_n 2, 1) := by decide +kernel
theorem dX11_seeksLiteral_7 : decode cX11_seeksLiteral 7 = .ok (.if_icmp .lt 4, 3) := by decide +kernel
theorem dX11_seeksLiteral_10 : decode cX11_seeksLiteral 10 = .ok (.return_, 1) := by decide +kernel
theorem dX11_seeksLiteral_11 : decode cX11_seeksLiteral 11 = .ok (.aload_n 0, 1) := by decide +kernel
theorem dX11_seeksLiteral_12 : decode cX11_seeksLiteral 12 = .ok (.getfield 65, 3) := by decide +kernel
theorem dX11_seeksLiteral_15 : decode cX11_seeksLiteral 15 = .ok (.iload_n 1, 1) := by decide +kernel
theorem dX11_seeksLiteral_16 : decode cX11_seeksLiteral 16 = .ok (.iaload, 1) := by decide +kernel
theorem dX11_seeksLiteral_17 : decode cX11_seeksLiteral 17 = .ok (.istore_n 3, 1) := by decide +kernel
theorem dX11_seeksLiteral_18 : decode cX11_seeksLiteral 18 = .ok (.iload_n 2, 1) := by decide +kernel
theorem dX11_seeksLiteral_19 : decode cX11_seeksLiteral 19 = .ok (.istore 4, 2) := by decide +kernel
theorem dX11_seeksLiteral_21 : decode cX11_seeksLiteral 21 = .ok (.iconst 0, 1) := by decide +kernel
theorem dX11_seeksLiteral_22 : decode cX11_seeksLiteral 22 = .ok (.istore 5, 2) := by decide +kernel
theorem dX11_seeksLiteral_24 : decode cX11_seeksLiteral 24 = .ok (.iload 4, 2) := by decide +kernel
theorem dX11_seeksLiteral_26 : decode cX11_seeksLiteral 26 = .ok (.bipush 40, 2) := by decide +kernel
theorem dX11_seeksLiteral_28 : decode cX11_seeksLiteral 28 = .ok (.if_icmp .ge 53, 3) := by decide +kernel
theorem dX11_seeksLiteral_31 : decode cX11_seeksLiteral 31 = .ok (.aload_n 0, 1) := by decide +kernel
theorem dX11_seeksLiteral_32 : decode cX11_seeksLiteral 32 = .ok (.getfield 50, 3) := by decide +kernel
theorem dX11_seeksLiteral_35 : decode cX11_seeksLiteral 35 = .ok (.iload 4, 2) := by decide +kernel
theorem dX11_seeksLiteral_37 : decode cX11_seeksLiteral 37 = .ok (.baload, 1) := by decide +kernel
theorem dX11_seeksLiteral_38 : decode cX11_seeksLiteral 38 = .ok (.ifCond .eq 17, 3) := by decide +kernel
theorem dX11_seeksLiteral_41 : decode cX11_seeksLiteral 41 = .ok (.aload_n 0, 1) := by decide +kernel
theorem dX11_seeksLiteral_42 : decode cX11_seeksLiteral 42 = .ok (.getfield 53, 3) := by decide +kernel
theorem dX11_seeksLiteral_45 : decode cX11_seeksLiteral 45 = .ok (.iload 4, 2) := by decide +kernel
theorem dX11_seeksLiteral_47 : decode cX11_seeksLiteral 47 = .ok (.iaload, 1) := by decide +kernel
theorem dX11_seeksLiteral_48 : decode cX11_seeksLiteral 48 = .ok (.iload_n 3, 1) := by decide +kernel
theorem dX11_seeksLiteral_49 : decode cX11_seeksLiteral 49 = .ok (.invokestatic 94, 3) := by decide +kernel
theorem dX11_seeksLiteral_52 : decode cX11_seeksLiteral 52 = .ok (.ifCond .ne 29, 3) := by decide +kernel
theorem dX11_seeksLiteral_55 : decode cX11_seeksLiteral 55 = .ok (.iload 5, 2) := by decide +kernel
theorem dX11_seeksLiteral_57 : decode cX11_seeksLiteral 57 = .ok (.aload_n 0, 1) := by decide +kernel
theorem dX11_seeksLiteral_58 : decode cX11_seeksLiteral 58 = .ok (.getfield 50, 3) := by decide +kernel
theorem dX11_seeksLiteral_61 : decode cX11_seeksLiteral 61 = .ok (.iload 4, 2) := by decide +kernel
theorem dX11_seeksLiteral_63 : decode cX11_seeksLiteral 63 = .ok (.baload, 1) := by decide +kernel
theorem dX11_seeksLiteral_64 : decode cX11_seeksLiteral 64 = .ok (.ifCond .eq 7, 3) := by decide +kernel
theorem dX11_seeksLiteral_67 : decode cX11_seeksLiteral 67 = .ok (.iconst 1, 1) := by decide +kernel
theorem dX11_seeksLiteral_68 : decode cX11_seeksLiteral 68 = .ok (.goto 4, 3) := by decide +kernel
theorem dX11_seeksLiteral_71 : decode cX11_seeksLiteral 71 = .ok (.iconst 0, 1) := by decide +kernel
theorem dX11_seeksLiteral_72 : decode cX11_seeksLiteral 72 = .ok (.iadd, 1) := by decide +kernel
theorem dX11_seeksLiteral_73 : decode cX11_seeksLiteral 73 = .ok (.istore 5, 2) := by decide +kernel
theorem dX11_seeksLiteral_75 : decode cX11_seeksLiteral 75 = .ok (.iinc 4 1, 3) := by decide +kernel
theorem dX11_seeksLiteral_78 : decode cX11_seeksLiteral 78 = .ok (.goto (-54), 3) := by decide +kernel
theorem dX11_seeksLiteral_81 : decode cX11_seeksLiteral 81 = .ok (.aload_n 0, 1) := by decide +kernel
theorem dX11_seeksLiteral_82 : decode cX11_seeksLiteral 82 = .ok (.dup, 1) := by decide +kernel
theorem dX11_seeksLiteral_83 : decode cX11_seeksLiteral 83 = .ok (.getfield 184, 3) := by decide +kernel
theorem dX11_seeksLiteral_86 : decode cX11_seeksLiteral 86 = .ok (.iload_n 3, 1) := by decide +kernel
theorem dX11_seeksLiteral_87 : decode cX11_seeksLiteral 87 = .ok (.iconst 2, 1) := by decide +kernel
theorem dX11_seeksLiteral_88 : decode cX11_seeksLiteral 88 = .ok (.irem, 1) := by decide +kernel
theorem dX11_seeksLiteral_89 : decode cX11_seeksLiteral 89 = .ok (.ifCond .ne 7, 3) := by decide +kernel
theorem dX11_seeksLiteral_92 : decode cX11_seeksLiteral 92 = .ok (.iconst 1, 1) := by decide +kernel
theorem dX11_seeksLiteral_93 : decode cX11_seeksLiteral 93 = .ok (.goto 7, 3) := by decide +kernel
theorem dX11_seeksLiteral_96 : decode cX11_seeksLiteral 96 = .ok (.iload 5, 2) := by decide +kernel
theorem dX11_seeksLiteral_98 : decode cX11_seeksLiteral 98 = .ok (.iconst 1, 1) := by decide +kernel
theorem dX11_seeksLiteral_99 : decode cX11_seeksLiteral 99 = .ok (.iadd, 1) := by decide +kernel
theorem dX11_seeksLiteral_100 : decode cX11_seeksLiteral 100 = .ok (.iadd, 1) := by decide +kernel
theorem dX11_seeksLiteral_101 : decode cX11_seeksLiteral 101 = .ok (.putfield 184, 3) := by decide +kernel
theorem dX11_seeksLiteral_104 : decode cX11_seeksLiteral 104 = .ok (.aload_n 0, 1) := by decide +kernel
theorem dX11_seeksLiteral_105 : decode cX11_seeksLiteral 105 = .ok (.getfield 68, 3) := by decide +kernel
theorem dX11_seeksLiteral_108 : decode cX11_seeksLiteral 108 = .ok (.iload_n 1, 1) := by decide +kernel
theorem dX11_seeksLiteral_109 : decode cX11_seeksLiteral 109 = .ok (.iload 4, 2) := by decide +kernel
theorem dX11_seeksLiteral_111 : decode cX11_seeksLiteral 111 = .ok (.iastore, 1) := by decide +kernel
theorem dX11_seeksLiteral_112 : decode cX11_seeksLiteral 112 = .ok (.return_, 1) := by decide +kernel
theorem dX11_nthLiteral_0 : decode cX11_nthLiteral 0 = .ok (.iconst 0, 1) := by decide +kernel
theorem dX11_nthLiteral_1 : decode cX11_nthLiteral 1 = .ok (.istore 4, 2) := by decide +kernel
theorem dX11_nthLiteral_3 : decode cX11_nthLiteral 3 = .ok (.iload 4, 2) := by decide +kernel
theorem dX11_nthLiteral_5 : decode cX11_nthLiteral 5 = .ok (.bipush 40, 2) := by decide +kernel
theorem dX11_nthLiteral_7 : decode cX11_nthLiteral 7 = .ok (.if_icmp .gt 60, 3) := by decide +kernel
theorem dX11_nthLiteral_10 : decode cX11_nthLiteral 10 = .ok (.iconst 0, 1) := by decide +kernel
theorem dX11_nthLiteral_11 : decode cX11_nthLiteral 11 = .ok (.istore 5, 2) := by decide +kernel
theorem dX11_nthLiteral_13 : decode cX11_nthLiteral 13 = .ok (.iconst 0, 1) := by decide +kernel
theorem dX11_nthLiteral_14 : decode cX11_nthLiteral 14 = .ok (.istore 6, 2) := by decide +kernel
theorem dX11_nthLiteral_16 : decode cX11_nthLiteral 16 = .ok (.iload 6, 2) := by decide +kernel
theorem dX11_nthLiteral_18 : decode cX11_nthLiteral 18 = .ok (.iload_n 2, 1) := by decide +kernel
theorem dX11_nthLiteral_19 : decode cX11_nthLiteral 19 = .ok (.if_icmp .ge 33, 3) := by decide +kernel
theorem dX11_nthLiteral_22 : decode cX11_nthLiteral 22 = .ok (.iload 5, 2) := by decide +kernel
theorem dX11_nthLiteral_24 : decode cX11_nthLiteral 24 = .ok (.aload_n 0, 1) := by decide +kernel
theorem dX11_nthLiteral_25 : decode cX11_nthLiteral 25 = .ok (.getfield 68, 3) := by decide +kernel
theorem dX11_nthLiteral_28 : decode cX11_nthLiteral 28 = .ok (.iload_n 1, 1) := by decide +kernel
theorem dX11_nthLiteral_29 : decode cX11_nthLiteral 29 = .ok (.iload 6, 2) := by decide +kernel
theorem dX11_nthLiteral_31 : decode cX11_nthLiteral 31 = .ok (.iadd, 1) := by decide +kernel
theorem dX11_nthLiteral_32 : decode cX11_nthLiteral 32 = .ok (.iaload, 1) := by decide +kernel
theorem dX11_nthLiteral_33 : decode cX11_nthLiteral 33 = .ok (.iload 4, 2) := by decide +kernel
theorem dX11_nthLiteral_35 : decode cX11_nthLiteral 35 = .ok (.if_icmp .gt 7, 3) := by decide +kernel
theorem dX11_nthLiteral_38 : decode cX11_nthLiteral 38 = .ok (.iconst 1, 1) := by decide +kernel
theorem dX11_nthLiteral_39 : decode cX11_nthLiteral 39 = .ok (.goto 4, 3) := by decide +kernel
theorem dX11_nthLiteral_42 : decode cX11_nthLiteral 42 = .ok (.iconst 0, 1) := by decide +kernel
theorem dX11_nthLiteral_43 : decode cX11_nthLiteral 43 = .ok (.iadd, 1) := by decide +kernel
theorem dX11_nthLiteral_44 : decode cX11_nthLiteral 44 = .ok (.istore 5, 2) := by decide +kernel
theorem dX11_nthLiteral_46 : decode cX11_nthLiteral 46 = .ok (.iinc 6 1, 3) := by decide +kernel
theorem dX11_nthLiteral_49 : decode cX11_nthLiteral 49 = .ok (.goto (-33), 3) := by decide +kernel
theorem dX11_nthLiteral_52 : decode cX11_nthLiteral 52 = .ok (.iload 5, 2) := by decide +kernel
theorem dX11_nthLiteral_54 : decode cX11_nthLiteral 54 = .ok (.iload_n 3, 1) := by decide +kernel
theorem dX11_nthLiteral_55 : decode cX11_nthLiteral 55 = .ok (.if_icmp .lt 6, 3) := by decide +kernel
theorem dX11_nthLiteral_58 : decode cX11_nthLiteral 58 = .ok (.iload 4, 2) := by decide +kernel
theorem dX11_nthLiteral_60 : decode cX11_nthLiteral 60 = .ok (.ireturn, 1) := by decide +kernel
theorem dX11_nthLiteral_61 : decode cX11_nthLiteral 61 = .ok (.iinc 4 1, 3) := by decide +kernel
theorem dX11_nthLiteral_64 : decode cX11_nthLiteral 64 = .ok (.goto (-61), 3) := by decide +kernel
theorem dX11_nthLiteral_67 : decode cX11_nthLiteral 67 = .ok (.bipush 40, 2) := by decide +kernel
theorem dX11_nthLiteral_69 : decode cX11_nthLiteral 69 = .ok (.ireturn, 1) := by decide +kernel
theorem dX11_seeksClause_0 : decode cX11_seeksClause 0 = .ok (.aload_n 0, 1) := by decide +kernel
theorem dX11_seeksClause_1 : decode cX11_seeksClause 1 = .ok (.getfield 71, 3) := by decide +kernel
theorem dX11_seeksClause_4 : decode cX11_seeksClause 4 = .ok (.iload_n 1, 1) := by decide +kernel
theorem dX11_seeksClause_5 : decode cX11_seeksClause 5 = .ok (.iaload, 1) := by decide +kernel
theorem dX11_seeksClause_6 : decode cX11_seeksClause 6 = .ok (.iload_n 2, 1) := by decide +kernel
theorem dX11_seeksClause_7 : decode cX11_seeksClause 7 = .ok (.if_icmp .lt 4, 3) := by decide +kernel
theorem dX11_seeksClause_10 : decode cX11_seeksClause 10 = .ok (.return_, 1) := by decide +kernel
theorem dX11_seeksClause_11 : decode cX11_seeksClause 11 = .ok (.bipush 6, 2) := by decide +kernel
theorem dX11_seeksClause_13 : decode cX11_seeksClause 13 = .ok (.iload_n 1, 1) := by decide +kernel
theorem dX11_seeksClause_14 : decode cX11_seeksClause 14 = .ok (.imul, 1) := by decide +kernel
theorem dX11_seeksClause_15 : decode cX11_seeksClause 15 = .ok (.istore_n 3, 1) := by decide +kernel
theorem dX11_seeksClause_16 : decode cX11_seeksClause 16 = .ok (.iload_n 2, 1) := by decide +kernel
theorem dX11_seeksClause_17 : decode cX11_seeksClause 17 = .ok (.istore 4, 2) := by decide +kernel
theorem dX11_seeksClause_19 : decode cX11_seeksClause 19 = .ok (.iconst 0, 1) := by decide +kernel
theorem dX11_seeksClause_20 : decode cX11_seeksClause 20 = .ok (.istore 5, 2) := by decide +kernel
theorem dX11_seeksClause_22 : decode cX11_seeksClause 22 = .ok (.aload_n 0, 1) := by decide +kernel
theorem dX11_seeksClause_23 : decode cX11_seeksClause 23 = .ok (.getfield 56, 3) := by decide +kernel
theorem dX11_seeksClause_26 : decode cX11_seeksClause 26 = .ok (.iload_n 1, 1) := by decide +kernel
theorem dX11_seeksClause_27 : decode cX11_seeksClause 27 = .ok (.iaload, 1) := by decide +kernel
theorem dX11_seeksClause_28 : decode cX11_seeksClause 28 = .ok (.ifCond .ne 75, 3) := by decide +kernel
theorem dX11_seeksClause_31 : decode cX11_seeksClause 31 = .ok (.iload 5, 2) := by decide +kernel
theorem dX11_seeksClause_33 : decode cX11_seeksClause 33 = .ok (.aload_n 0, 1) := by decide +kernel
theorem dX11_seeksClause_34 : decode cX11_seeksClause 34 = .ok (.getfield 62, 3) := by decide +kernel
theorem dX11_seeksClause_37 : decode cX11_seeksClause 37 = .ok (.iload_n 1, 1) := by decide +kernel
theorem dX11_seeksClause_38 : decode cX11_seeksClause 38 = .ok (.iaload, 1) := by decide +kernel
theorem dX11_seeksClause_39 : decode cX11_seeksClause 39 = .ok (.if_icmp .ge 55, 3) := by decide +kernel
theorem dX11_seeksClause_42 : decode cX11_seeksClause 42 = .ok (.iload 4, 2) := by decide +kernel
theorem dX11_seeksClause_44 : decode cX11_seeksClause 44 = .ok (.bipush 40, 2) := by decide +kernel
theorem dX11_seeksClause_46 : decode cX11_seeksClause 46 = .ok (.if_icmp .ge 48, 3) := by decide +kernel
theorem dX11_seeksClause_49 : decode cX11_seeksClause 49 = .ok (.aload_n 0, 1) := by decide +kernel
theorem dX11_seeksClause_50 : decode cX11_seeksClause 50 = .ok (.iload_n 3, 1) := by decide +kernel
theorem dX11_seeksClause_51 : decode cX11_seeksClause 51 = .ok (.iload 5, 2) := by decide +kernel
theorem dX11_seeksClause_53 : decode cX11_seeksClause 53 = .ok (.iadd, 1) := by decide +kernel
theorem dX11_seeksClause_54 : decode cX11_seeksClause 54 = .ok (.iload 4, 2) := by decide +kernel
theorem dX11_seeksClause_56 : decode cX11_seeksClause 56 = .ok (.invokevirtual 187, 3) := by decide +kernel
theorem dX11_seeksClause_59 : decode cX11_seeksClause 59 = .ok (.aload_n 0, 1) := by decide +kernel
theorem dX11_seeksClause_60 : decode cX11_seeksClause 60 = .ok (.getfield 68, 3) := by decide +kernel
theorem dX11_seeksClause_63 : decode cX11_seeksClause 63 = .ok (.iload_n 3, 1) := by decide +kernel
theorem dX11_seeksClause_64 : decode cX11_seeksClause 64 = .ok (.iload 5, 2) := by decide +kernel
theorem dX11_seeksClause_66 : decode cX11_seeksClause 66 = .ok (.iadd, 1) := by decide +kernel
theorem dX11_seeksClause_67 : decode cX11_seeksClause 67 = .ok (.iaload, 1) := by decide +kernel
theorem dX11_seeksClause_68 : decode cX11_seeksClause 68 = .ok (.istore 6, 2) := by decide +kernel
theorem dX11_seeksClause_70 : decode cX11_seeksClause 70 = .ok (.iload 6, 2) := by decide +kernel
theorem dX11_seeksClause_72 : decode cX11_seeksClause 72 = .ok (.iload 4, 2) := by decide +kernel
theorem dX11_seeksClause_74 : decode cX11_seeksClause 74 = .ok (.if_icmp .le 7, 3) := by decide +kernel
theorem dX11_seeksClause_77 : decode cX11_seeksClause 77 = .ok (.iconst 0, 1) := by decide +kernel
theorem dX11_seeksClause_78 : decode cX11_seeksClause 78 = .ok (.goto 7, 3) := by decide +kernel
theorem dX11_seeksClause_81 : decode cX11_seeksClause 81 = .ok (.iload 5, 2) := by decide +kernel
theorem dX11_seeksClause_83 : decode cX11_seeksClause 83 = .ok (.iconst 1, 1) := by decide +kernel
theorem dX11_seeksClause_84 : decode cX11_seeksClause 84 = .ok (.iadd, 1) := by decide +kernel
theorem dX11_seeksClause_85 : decode cX11_seeksClause 85 = .ok (.istore 5, 2) := by decide +kernel
theorem dX11_seeksClause_87 : decode cX11_seeksClause 87 = .ok (.iload 6, 2) := by decide +kernel
theorem dX11_seeksClause_89 : decode cX11_seeksClause 89 = .ok (.istore 4, 2) := by decide +kernel
theorem dX11_seeksClause_91 : decode cX11_seeksClause 91 = .ok (.goto (-60), 3) := by decide +kernel
theorem dX11_seeksClause_94 : decode cX11_seeksClause 94 = .ok (.aload_n 0, 1) := by decide +kernel
theorem dX11_seeksClause_95 : decode cX11_seeksClause 95 = .ok (.getfield 71, 3) := by decide +kernel
theorem dX11_seeksClause_98 : decode cX11_seeksClause 98 = .ok (.iload_n 1, 1) := by decide +kernel
theorem dX11_seeksClause_99 : decode cX11_seeksClause 99 = .ok (.iload 4, 2) := by decide +kernel
theorem dX11_seeksClause_101 : decode cX11_seeksClause 101 = .ok (.iastore, 1) := by decide +kernel
theorem dX11_seeksClause_102 : decode cX11_seeksClause 102 = .ok (.return_, 1) := by decide +kernel
theorem dX11_seeksClause_103 : decode cX11_seeksClause 103 = .ok (.aload_n 0, 1) := by decide +kernel
theorem dX11_seeksClause_104 : decode cX11_seeksClause 104 = .ok (.getfield 56, 3) := by decide +kernel
theorem dX11_seeksClause_107 : decode cX11_seeksClause 107 = .ok (.iload_n 1, 1) := by decide +kernel
theorem dX11_seeksClause_108 : decode cX11_seeksClause 108 = .ok (.iaload, 1) := by decide +kernel
theorem dX11_seeksClause_109 : decode cX11_seeksClause 109 = .ok (.iconst 1, 1) := by decide +kernel
theorem dX11_seeksClause_110 : decode cX11_seeksClause 110 = .ok (.if_icmp .ne 7, 3) := by decide +kernel
theorem dX11_seeksClause_113 : decode cX11_seeksClause 113 = .ok (.iconst 1, 1) := by decide +kernel
theorem dX11_seeksClause_114 : decode cX11_seeksClause 114 = .ok (.goto 9, 3) := by decide +kernel
theorem dX11_seeksClause_117 : decode cX11_seeksClause 117 = .ok (.aload_n 0, 1) := by decide +kernel
theorem dX11_seeksClause_118 : decode cX11_seeksClause 118 = .ok (.getfield 59, 3) := by decide +kernel
theorem dX11_seeksClause_121 : decode cX11_seeksClause 121 = .ok (.iload_n 1, 1) := by decide +kernel
theorem dX11_seeksClause_122 : decode cX11_seeksClause 122 = .ok (.iaload, 1) := by decide +kernel
theorem dX11_seeksClause_123 : decode cX11_seeksClause 123 = .ok (.istore 6, 2) := by decide +kernel
theorem dX11_seeksClause_125 : decode cX11_seeksClause 125 = .ok (.iconst 1, 1) := by decide +kernel
theorem dX11_seeksClause_126 : decode cX11_seeksClause 126 = .ok (.istore 7, 2) := by decide +kernel
theorem dX11_seeksClause_128 : decode cX11_seeksClause 128 = .ok (.iload 7, 2) := by decide +kernel
theorem dX11_seeksClause_130 : decode cX11_seeksClause 130 = .ok (.ifCond .eq 86, 3) := by decide +kernel
theorem dX11_seeksClause_133 : decode cX11_seeksClause 133 = .ok (.iconst 0, 1) := by decide +kernel
theorem dX11_seeksClause_134 : decode cX11_seeksClause 134 = .ok (.istore 8, 2) := by decide +kernel
theorem dX11_seeksClause_136 : decode cX11_seeksClause 136 = .ok (.iload 8, 2) := by decide +kernel
theorem dX11_seeksClause_138 : decode cX11_seeksClause 138 = .ok (.aload_n 0, 1) := by decide +kernel
theorem dX11_seeksClause_139 : decode cX11_seeksClause 139 = .ok (.getfield 62, 3) := by decide +kernel
theorem dX11_seeksClause_142 : decode cX11_seeksClause 142 = .ok (.iload_n 1, 1) := by decide +kernel
theorem dX11_seeksClause_143 : decode cX11_seeksClause 143 = .ok (.iaload, 1) := by decide +kernel
theorem dX11_seeksClause_144 : decode cX11_seeksClause 144 = .ok (.if_icmp .ge 19, 3) := by decide +kernel
theorem dX11_seeksClause_147 : decode cX11_seeksClause 147 = .ok (.aload_n 0, 1) := by decide +kernel
theorem dX11_seeksClause_148 : decode cX11_seeksClause 148 = .ok (.iload_n 3, 1) := by decide +kernel
theorem dX11_seeksClause_149 : decode cX11_seeksClause 149 = .ok (.iload 8, 2) := by decide +kernel
theorem dX11_seeksClause_151 : decode cX11_seeksClause 151 = .ok (.iadd, 1) := by decide +kernel
theorem dX11_seeksClause_152 : decode cX11_seeksClause 152 = .ok (.iload 4, 2) := by decide +kernel
theorem dX11_seeksClause_154 : decode cX11_seeksClause 154 = .ok (.invokevirtual 187, 3) := by decide +kernel
theorem dX11_seeksClause_157 : decode cX11_seeksClause 157 = .ok (.iinc 8 1, 3) := by decide +kernel
theorem dX11_seeksClause_160 : decode cX11_seeksClause 160 = .ok (.goto (-24), 3) := by decide +kernel
theorem dX11_seeksClause_163 : decode cX11_seeksClause 163 = .ok (.aload_n 0, 1) := by decide +kernel
theorem dX11_seeksClause_164 : decode cX11_seeksClause 164 = .ok (.iload_n 3, 1) := by decide +kernel
theorem dX11_seeksClause_165 : decode cX11_seeksClause 165 = .ok (.aload_n 0, 1) := by decide +kernel
theorem dX11_seeksClause_166 : decode cX11_seeksClause 166 = .ok (.getfield 62, 3) := by decide +kernel
theorem dX11_seeksClause_169 : decode cX11_seeksClause 169 = .ok (.iload_n 1, 1) := by decide +kernel
theorem dX11_seeksClause_170 : decode cX11_seeksClause 170 = .ok (.iaload, 1) := by decide +kernel
theorem dX11_seeksClause_171 : decode cX11_seeksClause 171 = .ok (.iload 6, 2) := by decide +kernel
theorem dX11_seeksClause_173 : decode cX11_seeksClause 173 = .ok (.invokevirtual 191, 3) := by decide +kernel
theorem dX11_seeksClause_176 : decode cX11_seeksClause 176 = .ok (.istore 8, 2) := by decide +kernel
theorem dX11_seeksClause_178 : decode cX11_seeksClause 178 = .ok (.aload_n 0, 1) := by decide +kernel
theorem dX11_seeksClause_179 : decode cX11_seeksClause 179 = .ok (.getfield 56, 3) := by decide +kernel
theorem dX11_seeksClause_182 : decode cX11_seeksClause 182 = .ok (.iload_n 1, 1) := by decide +kernel
theorem dX11_seeksClause_183 : decode cX11_seeksClause 183 = .ok (.iaload, 1) := by decide +kernel
theorem dX11_seeksClause_184 : decode cX11_seeksClause 184 = .ok (.iconst 2, 1) := by decide +kernel
theorem dX11_seeksClause_185 : decode cX11_seeksClause 185 = .ok (.if_icmp .ne 21, 3) := by decide +kernel
theorem dX11_seeksClause_188 : decode cX11_seeksClause 188 = .ok (.iload 8, 2) := by decide +kernel
theorem dX11_seeksClause_190 : decode cX11_seeksClause 190 = .ok (.iload 4, 2) := by decide +kernel
theorem dX11_seeksClause_192 : decode cX11_seeksClause 192 = .ok (.if_icmp .le 14, 3) := by decide +kernel
theorem dX11_seeksClause_195 : decode cX11_seeksClause 195 = .ok (.iload 8, 2) := by decide +kernel
theorem dX11_seeksClause_197 : decode cX11_seeksClause 197 = .ok (.bipush 40, 2) := by decide +kernel
theorem dX11_seeksClause_199 : decode cX11_seeksClause 199 = .ok (.if_icmp .ge 7, 3) := by decide +kernel
theorem dX11_seeksClause_202 : decode cX11_seeksClause 202 = .ok (.iconst 1, 1) := by decide +kernel
theorem dX11_seeksClause_203 : decode cX11_seeksClause 203 = .ok (.goto 4, 3) := by decide +kernel
theorem dX11_seeksClause_206 : decode cX11_seeksClause 206 = .ok (.iconst 0, 1) := by decide +kernel
theorem dX11_seeksClause_207 : decode cX11_seeksClause 207 = .ok (.istore 7, 2) := by decide +kernel
theorem dX11_seeksClause_209 : decode cX11_seeksClause 209 = .ok (.iload 8, 2) := by decide +kernel
theorem dX11_seeksClause_211 : decode cX11_seeksClause 211 = .ok (.istore 4, 2) := by decide +kernel
theorem dX11_seeksClause_213 : decode cX11_seeksClause 213 = .ok (.goto (-85), 3) := by decide +kernel
theorem dX11_seeksClause_216 : decode cX11_seeksClause 216 = .ok (.aload_n 0, 1) := by decide +kernel
theorem dX11_seeksClause_217 : decode cX11_seeksClause 217 = .ok (.getfield 71, 3) := by decide +kernel
theorem dX11_seeksClause_220 : decode cX11_seeksClause 220 = .ok (.iload_n 1, 1) := by decide +kernel
theorem dX11_seeksClause_221 : decode cX11_seeksClause 221 = .ok (.iload 4, 2) := by decide +kernel
theorem dX11_seeksClause_223 : decode cX11_seeksClause 223 = .ok (.iastore, 1) := by decide +kernel
theorem dX11_seeksClause_224 : decode cX11_seeksClause 224 = .ok (.return_, 1) := by decide +kernel
theorem dX11_nthClause_0 : decode cX11_nthClause 0 = .ok (.iconst 0, 1) := by decide +kernel
theorem dX11_nthClause_1 : decode cX11_nthClause 1 = .ok (.istore_n 2, 1) := by decide +kernel
theorem dX11_nthClause_2 : decode cX11_nthClause 2 = .ok (.iload_n 2, 1) := by decide +kernel
theorem dX11_nthClause_3 : decode cX11_nthClause 3 = .ok (.bipush 40, 2) := by decide +kernel
theorem dX11_nthClause_5 : decode cX11_nthClause 5 = .ok (.if_icmp .gt 55, 3) := by decide +kernel
theorem dX11_nthClause_8 : decode cX11_nthClause 8 = .ok (.iconst 0, 1) := by decide +kernel
theorem dX11_nthClause_9 : decode cX11_nthClause 9 = .ok (.istore_n 3, 1) := by decide +kernel
theorem dX11_nthClause_10 : decode cX11_nthClause 10 = .ok (.iconst 0, 1) := by decide +kernel
theorem dX11_nthClause_11 : decode cX11_nthClause 11 = .ok (.istore 4, 2) := by decide +kernel
theorem dX11_nthClause_13 : decode cX11_nthClause 13 = .ok (.iload 4, 2) := by decide +kernel
theorem dX11_nthClause_15 : decode cX11_nthClause 15 = .ok (.aload_n 0, 1) := by decide +kernel
theorem dX11_nthClause_16 : decode cX11_nthClause 16 = .ok (.getfield 175, 3) := by decide +kernel
theorem dX11_nthClause_19 : decode cX11_nthClause 19 = .ok (.if_icmp .ge 28, 3) := by decide +kernel
theorem dX11_nthClause_22 : decode cX11_nthClause 22 = .ok (.iload_n 3, 1) := by decide +kernel
theorem dX11_nthClause_23 : decode cX11_nthClause 23 = .ok (.aload_n 0, 1) := by decide +kernel
theorem dX11_nthClause_24 : decode cX11_nthClause 24 = .ok (.getfield 71, 3) := by decide +kernel
theorem dX11_nthClause_27 : decode cX11_nthClause 27 = .ok (.iload 4, 2) := by decide +kernel
theorem dX11_nthClause_29 : decode cX11_nthClause 29 = .ok (.iaload, 1) := by decide +kernel
theorem dX11_nthClause_30 : decode cX11_nthClause 30 = .ok (.iload_n 2, 1) := by decide +kernel
theorem dX11_nthClause_31 : decode cX11_nthClause 31 = .ok (.if_icmp .gt 7, 3) := by decide +kernel
theorem dX11_nthClause_34 : decode cX11_nthClause 34 = .ok (.iconst 1, 1) := by decide +kernel
theorem dX11_nthClause_35 : decode cX11_nthClause 35 = .ok (.goto 4, 3) := by decide +kernel
theorem dX11_nthClause_38 : decode cX11_nthClause 38 = .ok (.iconst 0, 1) := by decide +kernel
theorem dX11_nthClause_39 : decode cX11_nthClause 39 = .ok (.iadd, 1) := by decide +kernel
theorem dX11_nthClause_40 : decode cX11_nthClause 40 = .ok (.istore_n 3, 1) := by decide +kernel
theorem dX11_nthClause_41 : decode cX11_nthClause 41 = .ok (.iinc 4 1, 3) := by decide +kernel
theorem dX11_nthClause_44 : decode cX11_nthClause 44 = .ok (.goto (-31), 3) := by decide +kernel
theorem dX11_nthClause_47 : decode cX11_nthClause 47 = .ok (.iload_n 3, 1) := by decide +kernel
theorem dX11_nthClause_48 : decode cX11_nthClause 48 = .ok (.iload_n 1, 1) := by decide +kernel
theorem dX11_nthClause_49 : decode cX11_nthClause 49 = .ok (.if_icmp .lt 5, 3) := by decide +kernel
theorem dX11_nthClause_52 : decode cX11_nthClause 52 = .ok (.iload_n 2, 1) := by decide +kernel
theorem dX11_nthClause_53 : decode cX11_nthClause 53 = .ok (.ireturn, 1) := by decide +kernel
theorem dX11_nthClause_54 : decode cX11_nthClause 54 = .ok (.iinc 2 1, 3) := by decide +kernel
theorem dX11_nthClause_57 : decode cX11_nthClause 57 = .ok (.goto (-55), 3) := by decide +kernel
theorem dX11_nthClause_60 : decode cX11_nthClause 60 = .ok (.bipush 40, 2) := by decide +kernel
theorem dX11_nthClause_62 : decode cX11_nthClause 62 = .ok (.ireturn, 1) := by decide +kernel
theorem dX11_seeksPlan_0 : decode cX11_seeksPlan 0 = .ok (.iload_n 1, 1) := by decide +kernel
theorem dX11_seeksPlan_1 : decode cX11_seeksPlan 1 = .ok (.istore_n 2, 1) := by decide +kernel
theorem dX11_seeksPlan_2 : decode cX11_seeksPlan 2 = .ok (.aload_n 0, 1) := by decide +kernel
theorem dX11_seeksPlan_3 : decode cX11_seeksPlan 3 = .ok (.getfield 169, 3) := by decide +kernel
theorem dX11_seeksPlan_6 : decode cX11_seeksPlan 6 = .ok (.iconst 4, 1) := by decide +kernel
theorem dX11_seeksPlan_7 : decode cX11_seeksPlan 7 = .ok (.if_icmp .ne 6, 3) := by decide +kernel
theorem dX11_seeksPlan_10 : decode cX11_seeksPlan 10 = .ok (.bipush 40, 2) := by decide +kernel
theorem dX11_seeksPlan_12 : decode cX11_seeksPlan 12 = .ok (.ireturn, 1) := by decide +kernel
theorem dX11_seeksPlan_13 : decode cX11_seeksPlan 13 = .ok (.aload_n 0, 1) := by decide +kernel
theorem dX11_seeksPlan_14 : decode cX11_seeksPlan 14 = .ok (.getfield 169, 3) := by decide +kernel
theorem dX11_seeksPlan_17 : decode cX11_seeksPlan 17 = .ok (.iconst 3, 1) := by decide +kernel
theorem dX11_seeksPlan_18 : decode cX11_seeksPlan 18 = .ok (.if_icmp .ne 26, 3) := by decide +kernel
theorem dX11_seeksPlan_21 : decode cX11_seeksPlan 21 = .ok (.iload_n 2, 1) := by decide +kernel
theorem dX11_seeksPlan_22 : decode cX11_seeksPlan 22 = .ok (.bipush 40, 2) := by decide +kernel
theorem dX11_seeksPlan_24 : decode cX11_seeksPlan 24 = .ok (.if_icmp .ge 18, 3) := by decide +kernel
theorem dX11_seeksPlan_27 : decode cX11_seeksPlan 27 = .ok (.aload_n 0, 1) := by decide +kernel
theorem dX11_seeksPlan_28 : decode cX11_seeksPlan 28 = .ok (.getfield 50, 3) := by decide +kernel
theorem dX11_seeksPlan_31 : decode cX11_seeksPlan 31 = .ok (.iload_n 2, 1) := by decide +kernel
theorem dX11_seeksPlan_32 : decode cX11_seeksPlan 32 = .ok (.baload, 1) := by decide +kernel
theorem dX11_seeksPlan_33 : decode cX11_seeksPlan 33 = .ok (.ifCond .ne 9, 3) := by decide +kernel
theorem dX11_seeksPlan_36 : decode cX11_seeksPlan 36 = .ok (.iinc 2 1, 3) := by decide +kernel
theorem dX11_seeksPlan_39 : decode cX11_seeksPlan 39 = .ok (.goto (-18), 3) := by decide +kernel
theorem dX11_seeksPlan_42 : decode cX11_seeksPlan 42 = .ok (.iload_n 2, 1) := by decide +kernel
theorem dX11_seeksPlan_43 : decode cX11_seeksPlan 43 = .ok (.ireturn, 1) := by decide +kernel
theorem dX11_seeksPlan_44 : decode cX11_seeksPlan 44 = .ok (.iconst 0, 1) := by decide +kernel
theorem dX11_seeksPlan_45 : decode cX11_seeksPlan 45 = .ok (.istore_n 3, 1) := by decide +kernel
theorem dX11_seeksPlan_46 : decode cX11_seeksPlan 46 = .ok (.aload_n 0, 1) := by decide +kernel
theorem dX11_seeksPlan_47 : decode cX11_seeksPlan 47 = .ok (.getfield 169, 3) := by decide +kernel
theorem dX11_seeksPlan_50 : decode cX11_seeksPlan 50 = .ok (.ifCond .ne 53, 3) := by decide +kernel
theorem dX11_seeksPlan_53 : decode cX11_seeksPlan 53 = .ok (.iload_n 3, 1) := by decide +kernel
theorem dX11_seeksPlan_54 : decode cX11_seeksPlan 54 = .ok (.aload_n 0, 1) := by decide +kernel
theorem dX11_seeksPlan_55 : decode cX11_seeksPlan 55 = .ok (.getfield 175, 3) := by decide +kernel
theorem dX11_seeksPlan_58 : decode cX11_seeksPlan 58 = .ok (.if_icmp .ge 43, 3) := by decide +kernel
theorem dX11_seeksPlan_61 : decode cX11_seeksPlan 61 = .ok (.iload_n 2, 1) := by decide +kernel
theorem dX11_seeksPlan_62 : decode cX11_seeksPlan 62 = .ok (.bipush 40, 2) := by decide +kernel
theorem dX11_seeksPlan_64 : decode cX11_seeksPlan 64 = .ok (.if_icmp .ge 37, 3) := by decide +kernel
theorem dX11_seeksPlan_67 : decode cX11_seeksPlan 67 = .ok (.aload_n 0, 1) := by decide +kernel
theorem dX11_seeksPlan_68 : decode cX11_seeksPlan 68 = .ok (.iload_n 3, 1) := by decide +kernel
theorem dX11_seeksPlan_69 : decode cX11_seeksPlan 69 = .ok (.iload_n 2, 1) := by decide +kernel
theorem dX11_seeksPlan_70 : decode cX11_seeksPlan 70 = .ok (.invokevirtual 195, 3) := by decide +kernel
theorem dX11_seeksPlan_73 : decode cX11_seeksPlan 73 = .ok (.aload_n 0, 1) := by decide +kernel
theorem dX11_seeksPlan_74 : decode cX11_seeksPlan 74 = .ok (.getfield 71, 3) := by decide +kernel
theorem dX11_seeksPlan_77 : decode cX11_seeksPlan 77 = .ok (.iload_n 3, 1) := by decide +kernel
theorem dX11_seeksPlan_78 : decode cX11_seeksPlan 78 = .ok (.iaload, 1) := by decide +kernel
theorem dX11_seeksPlan_79 : decode cX11_seeksPlan 79 = .ok (.istore 4, 2) := by decide +kernel
theorem dX11_seeksPlan_81 : decode cX11_seeksPlan 81 = .ok (.iload 4, 2) := by decide +kernel
theorem dX11_seeksPlan_83 : decode cX11_seeksPlan 83 = .ok (.iload_n 2, 1) := by decide +kernel
theorem dX11_seeksPlan_84 : decode cX11_seeksPlan 84 = .ok (.if_icmp .le 7, 3) := by decide +kernel
theorem dX11_seeksPlan_87 : decode cX11_seeksPlan 87 = .ok (.iconst 0, 1) := by decide +kernel
theorem dX11_seeksPlan_88 : decode cX11_seeksPlan 88 = .ok (.goto 6, 3) := by decide +kernel
theorem dX11_seeksPlan_91 : decode cX11_seeksPlan 91 = .ok (.iload_n 3, 1) := by decide +kernel
theorem dX11_seeksPlan_92 : decode cX11_seeksPlan 92 = .ok (.iconst 1, 1) := by decide +kernel
theorem dX11_seeksPlan_93 : decode cX11_seeksPlan 93 = .ok (.iadd, 1) := by decide +kernel
theorem dX11_seeksPlan_94 : decode cX11_seeksPlan 94 = .ok (.istore_n 3, 1) := by decide +kernel
theorem dX11_seeksPlan_95 : decode cX11_seeksPlan 95 = .ok (.iload 4, 2) := by decide +kernel
theorem dX11_seeksPlan_97 : decode cX11_seeksPlan 97 = .ok (.istore_n 2, 1) := by decide +kernel
theorem dX11_seeksPlan_98 : decode cX11_seeksPlan 98 = .ok (.goto (-45), 3) := by decide +kernel
theorem dX11_seeksPlan_101 : decode cX11_seeksPlan 101 = .ok (.iload_n 2, 1) := by decide +kernel
theorem dX11_seeksPlan_102 : decode cX11_seeksPlan 102 = .ok (.ireturn, 1) := by decide +kernel
theorem dX11_seeksPlan_103 : decode cX11_seeksPlan 103 = .ok (.aload_n 0, 1) := by decide +kernel
theorem dX11_seeksPlan_104 : decode cX11_seeksPlan 104 = .ok (.getfield 169, 3) := by decide +kernel
theorem dX11_seeksPlan_107 : decode cX11_seeksPlan 107 = .ok (.iconst 1, 1) := by decide +kernel
theorem dX11_seeksPlan_108 : decode cX11_seeksPlan 108 = .ok (.if_icmp .ne 7, 3) := by decide +kernel
theorem dX11_seeksPlan_111 : decode cX11_seeksPlan 111 = .ok (.iconst 1, 1) := by decide +kernel
theorem dX11_seeksPlan_112 : decode cX11_seeksPlan 112 = .ok (.goto 7, 3) := by decide +kernel
theorem dX11_seeksPlan_115 : decode cX11_seeksPlan 115 = .ok (.aload_n 0, 1) := by decide +kernel
theorem dX11_seeksPlan_116 : decode cX11_seeksPlan 116 = .ok (.getfield 172, 3) := by decide +kernel
theorem dX11_seeksPlan_119 : decode cX11_seeksPlan 119 = .ok (.istore 4, 2) := by decide +kernel
theorem dX11_seeksPlan_121 : decode cX11_seeksPlan 121 = .ok (.iconst 1, 1) := by decide +kernel
theorem dX11_seeksPlan_122 : decode cX11_seeksPlan 122 = .ok (.istore 5, 2) := by decide +kernel
theorem dX11_seeksPlan_124 : decode cX11_seeksPlan 124 = .ok (.iload 5, 2) := by decide +kernel
theorem dX11_seeksPlan_126 : decode cX11_seeksPlan 126 = .ok (.ifCond .eq 70, 3) := by decide +kernel
theorem dX11_seeksPlan_129 : decode cX11_seeksPlan 129 = .ok (.iconst 0, 1) := by decide +kernel
theorem dX11_seeksPlan_130 : decode cX11_seeksPlan 130 = .ok (.istore 6, 2) := by decide +kernel
theorem dX11_seeksPlan_132 : decode cX11_seeksPlan 132 = .ok (.iload 6, 2) := by decide +kernel
theorem dX11_seeksPlan_134 : decode cX11_seeksPlan 134 = .ok (.aload_n 0, 1) := by decide +kernel
theorem dX11_seeksPlan_135 : decode cX11_seeksPlan 135 = .ok (.getfield 175, 3) := by decide +kernel
theorem dX11_seeksPlan_138 : decode cX11_seeksPlan 138 = .ok (.if_icmp .ge 16, 3) := by decide +kernel
theorem dX11_seeksPlan_141 : decode cX11_seeksPlan 141 = .ok (.aload_n 0, 1) := by decide +kernel
theorem dX11_seeksPlan_142 : decode cX11_seeksPlan 142 = .ok (.iload 6, 2) := by decide +kernel
theorem dX11_seeksPlan_144 : decode cX11_seeksPlan 144 = .ok (.iload_n 2, 1) := by decide +kernel
theorem dX11_seeksPlan_145 : decode cX11_seeksPlan 145 = .ok (.invokevirtual 195, 3) := by decide +kernel
theorem dX11_seeksPlan_148 : decode cX11_seeksPlan 148 = .ok (.iinc 6 1, 3) := by decide +kernel
theorem dX11_seeksPlan_151 : decode cX11_seeksPlan 151 = .ok (.goto (-19), 3) := by decide +kernel
theorem dX11_seeksPlan_154 : decode cX11_seeksPlan 154 = .ok (.aload_n 0, 1) := by decide +kernel
theorem dX11_seeksPlan_155 : decode cX11_seeksPlan 155 = .ok (.iload 4, 2) := by decide +kernel
theorem dX11_seeksPlan_157 : decode cX11_seeksPlan 157 = .ok (.invokevirtual 198, 3) := by decide +kernel
theorem dX11_seeksPlan_160 : decode cX11_seeksPlan 160 = .ok (.istore 6, 2) := by decide +kernel
theorem dX11_seeksPlan_162 : decode cX11_seeksPlan 162 = .ok (.aload_n 0, 1) := by decide +kernel
theorem dX11_seeksPlan_163 : decode cX11_seeksPlan 163 = .ok (.getfield 169, 3) := by decide +kernel
theorem dX11_seeksPlan_166 : decode cX11_seeksPlan 166 = .ok (.iconst 2, 1) := by decide +kernel
theorem dX11_seeksPlan_167 : decode cX11_seeksPlan 167 = .ok (.if_icmp .ne 20, 3) := by decide +kernel
theorem dX11_seeksPlan_170 : decode cX11_seeksPlan 170 = .ok (.iload 6, 2) := by decide +kernel
theorem dX11_seeksPlan_172 : decode cX11_seeksPlan 172 = .ok (.iload_n 2, 1) := by decide +kernel
theorem dX11_seeksPlan_173 : decode cX11_seeksPlan 173 = .ok (.if_icmp .le 14, 3) := by decide +kernel
theorem dX11_seeksPlan_176 : decode cX11_seeksPlan 176 = .ok (.iload 6, 2) := by decide +kernel
theorem dX11_seeksPlan_178 : decode cX11_seeksPlan 178 = .ok (.bipush 40, 2) := by decide +kernel
theorem dX11_seeksPlan_180 : decode cX11_seeksPlan 180 = .ok (.if_icmp .ge 7, 3) := by decide +kernel
theorem dX11_seeksPlan_183 : decode cX11_seeksPlan 183 = .ok (.iconst 1, 1) := by decide +kernel
theorem dX11_seeksPlan_184 : decode cX11_seeksPlan 184 = .ok (.goto 4, 3) := by decide +kernel
theorem dX11_seeksPlan_187 : decode cX11_seeksPlan 187 = .ok (.iconst 0, 1) := by decide +kernel
theorem dX11_seeksPlan_188 : decode cX11_seeksPlan 188 = .ok (.istore 5, 2) := by decide +kernel
theorem dX11_seeksPlan_190 : decode cX11_seeksPlan 190 = .ok (.iload 6, 2) := by decide +kernel
theorem dX11_seeksPlan_192 : decode cX11_seeksPlan 192 = .ok (.istore_n 2, 1) := by decide +kernel
theorem dX11_seeksPlan_193 : decode cX11_seeksPlan 193 = .ok (.goto (-69), 3) := by decide +kernel
theorem dX11_seeksPlan_196 : decode cX11_seeksPlan 196 = .ok (.iload_n 2, 1) := by decide +kernel
theorem dX11_seeksPlan_197 : decode cX11_seeksPlan 197 = .ok (.ireturn, 1) := by decide +kernel
theorem dX11_leaps_0 : decode cX11_leaps 0 = .ok (.iload_n 1, 1) := by decide +kernel
theorem dX11_leaps_1 : decode cX11_leaps 1 = .ok (.aload_n 0, 1) := by decide +kernel
theorem dX11_leaps_2 : decode cX11_leaps 2 = .ok (.getfield 178, 3) := by decide +kernel
theorem dX11_leaps_5 : decode cX11_leaps 5 = .ok (.if_icmp .le 7, 3) := by decide +kernel
theorem dX11_leaps_8 : decode cX11_leaps 8 = .ok (.iload_n 1, 1) := by decide +kernel
theorem dX11_leaps_9 : decode cX11_leaps 9 = .ok (.goto 9, 3) := by decide +kernel
theorem dX11_leaps_12 : decode cX11_leaps 12 = .ok (.aload_n 0, 1) := by decide +kernel
theorem dX11_leaps_13 : decode cX11_leaps 13 = .ok (.getfield 178, 3) := by decide +kernel
theorem dX11_leaps_16 : decode cX11_leaps 16 = .ok (.iconst 1, 1) := by decide +kernel
theorem dX11_leaps_17 : decode cX11_leaps 17 = .ok (.iadd, 1) := by decide +kernel
theorem dX11_leaps_18 : decode cX11_leaps 18 = .ok (.istore_n 2, 1) := by decide +kernel
theorem dX11_leaps_19 : decode cX11_leaps 19 = .ok (.aload_n 0, 1) := by decide +kernel
theorem dX11_leaps_20 : decode cX11_leaps 20 = .ok (.getfield 181, 3) := by decide +kernel
theorem dX11_leaps_23 : decode cX11_leaps 23 = .ok (.ifCond .ne 9, 3) := by decide +kernel
theorem dX11_leaps_26 : decode cX11_leaps 26 = .ok (.iload_n 2, 1) := by decide +kernel
theorem dX11_leaps_27 : decode cX11_leaps 27 = .ok (.bipush 40, 2) := by decide +kernel
theorem dX11_leaps_29 : decode cX11_leaps 29 = .ok (.if_icmp .lt 8, 3) := by decide +kernel
theorem dX11_leaps_32 : decode cX11_leaps 32 = .ok (.bipush 40, 2) := by decide +kernel
theorem dX11_leaps_34 : decode cX11_leaps 34 = .ok (.goto 8, 3) := by decide +kernel
theorem dX11_leaps_37 : decode cX11_leaps 37 = .ok (.aload_n 0, 1) := by decide +kernel
theorem dX11_leaps_38 : decode cX11_leaps 38 = .ok (.iload_n 2, 1) := by decide +kernel
theorem dX11_leaps_39 : decode cX11_leaps 39 = .ok (.invokevirtual 201, 3) := by decide +kernel
theorem dX11_leaps_42 : decode cX11_leaps 42 = .ok (.istore_n 3, 1) := by decide +kernel
theorem dX11_leaps_43 : decode cX11_leaps 43 = .ok (.aload_n 0, 1) := by decide +kernel
theorem dX11_leaps_44 : decode cX11_leaps 44 = .ok (.iload_n 3, 1) := by decide +kernel
theorem dX11_leaps_45 : decode cX11_leaps 45 = .ok (.bipush 40, 2) := by decide +kernel
theorem dX11_leaps_47 : decode cX11_leaps 47 = .ok (.if_icmp .ne 7, 3) := by decide +kernel
theorem dX11_leaps_50 : decode cX11_leaps 50 = .ok (.iconst 1, 1) := by decide +kernel
theorem dX11_leaps_51 : decode cX11_leaps 51 = .ok (.goto 4, 3) := by decide +kernel
theorem dX11_leaps_54 : decode cX11_leaps 54 = .ok (.iconst 0, 1) := by decide +kernel
theorem dX11_leaps_55 : decode cX11_leaps 55 = .ok (.putfield 181, 3) := by decide +kernel
theorem dX11_leaps_58 : decode cX11_leaps 58 = .ok (.aload_n 0, 1) := by decide +kernel
theorem dX11_leaps_59 : decode cX11_leaps 59 = .ok (.aload_n 0, 1) := by decide +kernel
theorem dX11_leaps_60 : decode cX11_leaps 60 = .ok (.getfield 181, 3) := by decide +kernel
theorem dX11_leaps_63 : decode cX11_leaps 63 = .ok (.ifCond .eq 10, 3) := by decide +kernel
theorem dX11_leaps_66 : decode cX11_leaps 66 = .ok (.aload_n 0, 1) := by decide +kernel
theorem dX11_leaps_67 : decode cX11_leaps 67 = .ok (.getfield 178, 3) := by decide +kernel
theorem dX11_leaps_70 : decode cX11_leaps 70 = .ok (.goto 4, 3) := by decide +kernel
theorem dX11_leaps_73 : decode cX11_leaps 73 = .ok (.iload_n 3, 1) := by decide +kernel
theorem dX11_leaps_74 : decode cX11_leaps 74 = .ok (.putfield 178, 3) := by decide +kernel
theorem dX11_leaps_77 : decode cX11_leaps 77 = .ok (.aload_n 0, 1) := by decide +kernel
theorem dX11_leaps_78 : decode cX11_leaps 78 = .ok (.getfield 181, 3) := by decide +kernel
theorem dX11_leaps_81 : decode cX11_leaps 81 = .ok (.ifCond .eq 7, 3) := by decide +kernel
theorem dX11_leaps_84 : decode cX11_leaps 84 = .ok (.iconst (-1), 1) := by decide +kernel
theorem dX11_leaps_85 : decode cX11_leaps 85 = .ok (.goto 4, 3) := by decide +kernel
theorem dX11_leaps_88 : decode cX11_leaps 88 = .ok (.iload_n 3, 1) := by decide +kernel
theorem dX11_leaps_89 : decode cX11_leaps 89 = .ok (.ireturn, 1) := by decide +kernel
theorem dX11_leap_0 : decode cX11_leap 0 = .ok (.aload_n 0, 1) := by decide +kernel
theorem dX11_leap_1 : decode cX11_leap 1 = .ok (.iload_n 1, 1) := by decide +kernel
theorem dX11_leap_2 : decode cX11_leap 2 = .ok (.invokestatic 82, 3) := by decide +kernel
theorem dX11_leap_5 : decode cX11_leap 5 = .ok (.aload_n 0, 1) := by decide +kernel
theorem dX11_leap_6 : decode cX11_leap 6 = .ok (.getfield 165, 3) := by decide +kernel
theorem dX11_leap_9 : decode cX11_leap 9 = .ok (.iconst 1, 1) := by decide +kernel
theorem dX11_leap_10 : decode cX11_leap 10 = .ok (.invokevirtual 86, 3) := by decide +kernel
theorem dX11_leap_13 : decode cX11_leap 13 = .ok (.ifCond .eq 11, 3) := by decide +kernel
theorem dX11_leap_16 : decode cX11_leap 16 = .ok (.aload_n 0, 1) := by decide +kernel
theorem dX11_leap_17 : decode cX11_leap 17 = .ok (.iload_n 1, 1) := by decide +kernel
theorem dX11_leap_18 : decode cX11_leap 18 = .ok (.invokevirtual 204, 3) := by decide +kernel
theorem dX11_leap_21 : decode cX11_leap 21 = .ok (.goto 4, 3) := by decide +kernel
theorem dX11_leap_24 : decode cX11_leap 24 = .ok (.iconst 0, 1) := by decide +kernel
theorem dX11_leap_25 : decode cX11_leap 25 = .ok (.ireturn, 1) := by decide +kernel
theorem dX11_next_0 : decode cX11_next 0 = .ok (.aload_n 0, 1) := by decide +kernel
theorem dX11_next_1 : decode cX11_next 1 = .ok (.aload_n 0, 1) := by decide +kernel
theorem dX11_next_2 : decode cX11_next 2 = .ok (.getfield 165, 3) := by decide +kernel
theorem dX11_next_5 : decode cX11_next 5 = .ok (.iconst 1, 1) := by decide +kernel
theorem dX11_next_6 : decode cX11_next 6 = .ok (.iconst 1, 1) := by decide +kernel
theorem dX11_next_7 : decode cX11_next 7 = .ok (.invokevirtual 86, 3) := by decide +kernel
theorem dX11_next_10 : decode cX11_next 10 = .ok (.ifCond .eq 11, 3) := by decide +kernel
theorem dX11_next_13 : decode cX11_next 13 = .ok (.aload_n 0, 1) := by decide +kernel
theorem dX11_next_14 : decode cX11_next 14 = .ok (.iconst 0, 1) := by decide +kernel
theorem dX11_next_15 : decode cX11_next 15 = .ok (.invokevirtual 204, 3) := by decide +kernel
theorem dX11_next_18 : decode cX11_next 18 = .ok (.goto 4, 3) := by decide +kernel
theorem dX11_next_21 : decode cX11_next 21 = .ok (.iconst 0, 1) := by decide +kernel
theorem dX11_next_22 : decode cX11_next 22 = .ok (.ireturn, 1) := by decide +kernel
theorem dX11_readings_0 : decode cX11_readings 0 = .ok (.aload_n 0, 1) := by decide +kernel
theorem dX11_readings_1 : decode cX11_readings 1 = .ok (.aload_n 0, 1) := by decide +kernel
theorem dX11_readings_2 : decode cX11_readings 2 = .ok (.getfield 165, 3) := by decide +kernel
theorem dX11_readings_5 : decode cX11_readings 5 = .ok (.iconst 1, 1) := by decide +kernel
theorem dX11_readings_6 : decode cX11_readings 6 = .ok (.iconst 1, 1) := by decide +kernel
theorem dX11_readings_7 : decode cX11_readings 7 = .ok (.invokevirtual 86, 3) := by decide +kernel
theorem dX11_readings_10 : decode cX11_readings 10 = .ok (.ifCond .eq 10, 3) := by decide +kernel
theorem dX11_readings_13 : decode cX11_readings 13 = .ok (.aload_n 0, 1) := by decide +kernel
theorem dX11_readings_14 : decode cX11_readings 14 = .ok (.getfield 184, 3) := by decide +kernel
theorem dX11_readings_17 : decode cX11_readings 17 = .ok (.goto 4, 3) := by decide +kernel
theorem dX11_readings_20 : decode cX11_readings 20 = .ok (.iconst 0, 1) := by decide +kernel
theorem dX11_readings_21 : decode cX11_readings 21 = .ok (.ireturn, 1) := by decide +kernel
