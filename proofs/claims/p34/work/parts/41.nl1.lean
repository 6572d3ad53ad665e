theorem dL_cell_0 : decode cL_cell 0 = .ok (.iload_n 1, 1) := by decide +kernel
theorem dL_cell_1 : decode cL_cell 1 = .ok (.aload_n 0, 1) := by decide +kernel
theorem dL_cell_2 : decode cL_cell 2 = .ok (.arraylength, 1) := by decide +kernel
theorem dL_cell_3 : decode cL_cell 3 = .ok (.if_icmp .ge 9, 3) := by decide +kernel
theorem dL_cell_6 : decode cL_cell 6 = .ok (.aload_n 0, 1) := by decide +kernel
theorem dL_cell_7 : decode cL_cell 7 = .ok (.iload_n 1, 1) := by decide +kernel
theorem dL_cell_8 : decode cL_cell 8 = .ok (.iaload, 1) := by decide +kernel
theorem dL_cell_9 : decode cL_cell 9 = .ok (.goto 15, 3) := by decide +kernel
theorem dL_cell_12 : decode cL_cell 12 = .ok (.sipush 7919, 3) := by decide +kernel
theorem dL_cell_15 : decode cL_cell 15 = .ok (.iload_n 1, 1) := by decide +kernel
theorem dL_cell_16 : decode cL_cell 16 = .ok (.iconst 3, 1) := by decide +kernel
theorem dL_cell_17 : decode cL_cell 17 = .ok (.iadd, 1) := by decide +kernel
theorem dL_cell_18 : decode cL_cell 18 = .ok (.imul, 1) := by decide +kernel
theorem dL_cell_19 : decode cL_cell 19 = .ok (.iload_n 1, 1) := by decide +kernel
theorem dL_cell_20 : decode cL_cell 20 = .ok (.bipush 11, 2) := by decide +kernel
theorem dL_cell_22 : decode cL_cell 22 = .ok (.iadd, 1) := by decide +kernel
theorem dL_cell_23 : decode cL_cell 23 = .ok (.imul, 1) := by decide +kernel
theorem dL_cell_24 : decode cL_cell 24 = .ok (.ireturn, 1) := by decide +kernel
theorem dL_low_0 : decode cL_low 0 = .ok (.iload_n 0, 1) := by decide +kernel
theorem dL_low_1 : decode cL_low 1 = .ok (.ldc 7, 2) := by decide +kernel
theorem dL_low_3 : decode cL_low 3 = .ok (.iand, 1) := by decide +kernel
theorem dL_low_4 : decode cL_low 4 = .ok (.iload_n 1, 1) := by decide +kernel
theorem dL_low_5 : decode cL_low 5 = .ok (.irem, 1) := by decide +kernel
theorem dL_low_6 : decode cL_low 6 = .ok (.ireturn, 1) := by decide +kernel
theorem dL_shine_0 : decode cL_shine 0 = .ok (.iload_n 1, 1) := by decide +kernel
theorem dL_shine_1 : decode cL_shine 1 = .ok (.iconst 4, 1) := by decide +kernel
theorem dL_shine_2 : decode cL_shine 2 = .ok (.invokestatic 8, 3) := by decide +kernel
theorem dL_shine_5 : decode cL_shine 5 = .ok (.istore_n 2, 1) := by decide +kernel
theorem dL_shine_6 : decode cL_shine 6 = .ok (.iload_n 2, 1) := by decide +kernel
theorem dL_shine_7 : decode cL_shine 7 = .ok (.ifCond .ne 7, 3) := by decide +kernel
theorem dL_shine_10 : decode cL_shine 10 = .ok (.iconst 3, 1) := by decide +kernel
theorem dL_shine_11 : decode cL_shine 11 = .ok (.goto 25, 3) := by decide +kernel
theorem dL_shine_14 : decode cL_shine 14 = .ok (.iload_n 2, 1) := by decide +kernel
theorem dL_shine_15 : decode cL_shine 15 = .ok (.iconst 1, 1) := by decide +kernel
theorem dL_shine_16 : decode cL_shine 16 = .ok (.if_icmp .ne 18, 3) := by decide +kernel
theorem dL_shine_19 : decode cL_shine 19 = .ok (.iconst 1, 1) := by decide +kernel
theorem dL_shine_20 : decode cL_shine 20 = .ok (.iconst 2, 1) := by decide +kernel
theorem dL_shine_21 : decode cL_shine 21 = .ok (.iload_n 1, 1) := by decide +kernel
theorem dL_shine_22 : decode cL_shine 22 = .ok (.iconst 2, 1) := by decide +kernel
theorem dL_shine_23 : decode cL_shine 23 = .ok (.ishr, 1) := by decide +kernel
theorem dL_shine_24 : decode cL_shine 24 = .ok (.bipush 14, 2) := by decide +kernel
theorem dL_shine_26 : decode cL_shine 26 = .ok (.invokestatic 8, 3) := by decide +kernel
theorem dL_shine_29 : decode cL_shine 29 = .ok (.imul, 1) := by decide +kernel
theorem dL_shine_30 : decode cL_shine 30 = .ok (.iadd, 1) := by decide +kernel
theorem dL_shine_31 : decode cL_shine 31 = .ok (.goto 5, 3) := by decide +kernel
theorem dL_shine_34 : decode cL_shine 34 = .ok (.bipush 21, 2) := by decide +kernel
theorem dL_shine_36 : decode cL_shine 36 = .ok (.istore_n 3, 1) := by decide +kernel
theorem dL_shine_37 : decode cL_shine 37 = .ok (.iconst 0, 1) := by decide +kernel
theorem dL_shine_38 : decode cL_shine 38 = .ok (.istore 4, 2) := by decide +kernel
theorem dL_shine_40 : decode cL_shine 40 = .ok (.iconst 0, 1) := by decide +kernel
theorem dL_shine_41 : decode cL_shine 41 = .ok (.istore 5, 2) := by decide +kernel
theorem dL_shine_43 : decode cL_shine 43 = .ok (.iload 5, 2) := by decide +kernel
theorem dL_shine_45 : decode cL_shine 45 = .ok (.iload_n 3, 1) := by decide +kernel
theorem dL_shine_46 : decode cL_shine 46 = .ok (.if_icmp .ge 127, 3) := by decide +kernel
theorem dL_shine_49 : decode cL_shine 49 = .ok (.iload 5, 2) := by decide +kernel
theorem dL_shine_51 : decode cL_shine 51 = .ok (.iconst 1, 1) := by decide +kernel
theorem dL_shine_52 : decode cL_shine 52 = .ok (.if_icmp .ne 8, 3) := by decide +kernel
theorem dL_shine_55 : decode cL_shine 55 = .ok (.bipush 8, 2) := by decide +kernel
theorem dL_shine_57 : decode cL_shine 57 = .ok (.goto 21, 3) := by decide +kernel
theorem dL_shine_60 : decode cL_shine 60 = .ok (.iload_n 1, 1) := by decide +kernel
theorem dL_shine_61 : decode cL_shine 61 = .ok (.iload 5, 2) := by decide +kernel
theorem dL_shine_63 : decode cL_shine 63 = .ok (.bipush 13, 2) := by decide +kernel
theorem dL_shine_65 : decode cL_shine 65 = .ok (.irem, 1) := by decide +kernel
theorem dL_shine_66 : decode cL_shine 66 = .ok (.ishr, 1) := by decide +kernel
theorem dL_shine_67 : decode cL_shine 67 = .ok (.iconst 1, 1) := by decide +kernel
theorem dL_shine_68 : decode cL_shine 68 = .ok (.iand, 1) := by decide +kernel
theorem dL_shine_69 : decode cL_shine 69 = .ok (.ifCond .ne 7, 3) := by decide +kernel
theorem dL_shine_72 : decode cL_shine 72 = .ok (.iconst 4, 1) := by decide +kernel
theorem dL_shine_73 : decode cL_shine 73 = .ok (.goto 5, 3) := by decide +kernel
theorem dL_shine_76 : decode cL_shine 76 = .ok (.bipush 12, 2) := by decide +kernel
theorem dL_shine_78 : decode cL_shine 78 = .ok (.istore 6, 2) := by decide +kernel
theorem dL_shine_80 : decode cL_shine 80 = .ok (.iload 5, 2) := by decide +kernel
theorem dL_shine_82 : decode cL_shine 82 = .ok (.ifCond .ne 8, 3) := by decide +kernel
theorem dL_shine_85 : decode cL_shine 85 = .ok (.bipush 16, 2) := by decide +kernel
theorem dL_shine_87 : decode cL_shine 87 = .ok (.goto 24, 3) := by decide +kernel
theorem dL_shine_90 : decode cL_shine 90 = .ok (.iload 5, 2) := by decide +kernel
theorem dL_shine_92 : decode cL_shine 92 = .ok (.iconst 2, 1) := by decide +kernel
theorem dL_shine_93 : decode cL_shine 93 = .ok (.irem, 1) := by decide +kernel
theorem dL_shine_94 : decode cL_shine 94 = .ok (.ifCond .ne 7, 3) := by decide +kernel
theorem dL_shine_97 : decode cL_shine 97 = .ok (.iconst 4, 1) := by decide +kernel
theorem dL_shine_98 : decode cL_shine 98 = .ok (.goto 13, 3) := by decide +kernel
theorem dL_shine_101 : decode cL_shine 101 = .ok (.iload_n 2, 1) := by decide +kernel
theorem dL_shine_102 : decode cL_shine 102 = .ok (.ifCond .ne 7, 3) := by decide +kernel
theorem dL_shine_105 : decode cL_shine 105 = .ok (.iconst 4, 1) := by decide +kernel
theorem dL_shine_106 : decode cL_shine 106 = .ok (.goto 5, 3) := by decide +kernel
theorem dL_shine_109 : decode cL_shine 109 = .ok (.iload 6, 2) := by decide +kernel
theorem dL_shine_111 : decode cL_shine 111 = .ok (.istore 7, 2) := by decide +kernel
theorem dL_shine_113 : decode cL_shine 113 = .ok (.iload 5, 2) := by decide +kernel
theorem dL_shine_115 : decode cL_shine 115 = .ok (.iload_n 1, 1) := by decide +kernel
theorem dL_shine_116 : decode cL_shine 116 = .ok (.iconst 5, 1) := by decide +kernel
theorem dL_shine_117 : decode cL_shine 117 = .ok (.ishr, 1) := by decide +kernel
theorem dL_shine_118 : decode cL_shine 118 = .ok (.bipush 21, 2) := by decide +kernel
theorem dL_shine_120 : decode cL_shine 120 = .ok (.invokestatic 8, 3) := by decide +kernel
theorem dL_shine_123 : decode cL_shine 123 = .ok (.if_icmp .ne 17, 3) := by decide +kernel
theorem dL_shine_126 : decode cL_shine 126 = .ok (.iload_n 1, 1) := by decide +kernel
theorem dL_shine_127 : decode cL_shine 127 = .ok (.bipush 9, 2) := by decide +kernel
theorem dL_shine_129 : decode cL_shine 129 = .ok (.ishr, 1) := by decide +kernel
theorem dL_shine_130 : decode cL_shine 130 = .ok (.bipush 12, 2) := by decide +kernel
theorem dL_shine_132 : decode cL_shine 132 = .ok (.invokestatic 8, 3) := by decide +kernel
theorem dL_shine_135 : decode cL_shine 135 = .ok (.iconst 3, 1) := by decide +kernel
theorem dL_shine_136 : decode cL_shine 136 = .ok (.isub, 1) := by decide +kernel
theorem dL_shine_137 : decode cL_shine 137 = .ok (.goto 4, 3) := by decide +kernel
theorem dL_shine_140 : decode cL_shine 140 = .ok (.iconst 0, 1) := by decide +kernel
theorem dL_shine_141 : decode cL_shine 141 = .ok (.istore 8, 2) := by decide +kernel
theorem dL_shine_143 : decode cL_shine 143 = .ok (.aload_n 0, 1) := by decide +kernel
theorem dL_shine_144 : decode cL_shine 144 = .ok (.iload 7, 2) := by decide +kernel
theorem dL_shine_146 : decode cL_shine 146 = .ok (.iload 8, 2) := by decide +kernel
theorem dL_shine_148 : decode cL_shine 148 = .ok (.iadd, 1) := by decide +kernel
theorem dL_shine_149 : decode cL_shine 149 = .ok (.iconst 1, 1) := by decide +kernel
theorem dL_shine_150 : decode cL_shine 150 = .ok (.if_icmp .ge 7, 3) := by decide +kernel
theorem dL_shine_153 : decode cL_shine 153 = .ok (.iconst 1, 1) := by decide +kernel
theorem dL_shine_154 : decode cL_shine 154 = .ok (.goto 8, 3) := by decide +kernel
theorem dL_shine_157 : decode cL_shine 157 = .ok (.iload 7, 2) := by decide +kernel
theorem dL_shine_159 : decode cL_shine 159 = .ok (.iload 8, 2) := by decide +kernel
theorem dL_shine_161 : decode cL_shine 161 = .ok (.iadd, 1) := by decide +kernel
theorem dL_shine_162 : decode cL_shine 162 = .ok (.invokevirtual 14, 3) := by decide +kernel
theorem dL_shine_165 : decode cL_shine 165 = .ok (.istore 4, 2) := by decide +kernel
theorem dL_shine_167 : decode cL_shine 167 = .ok (.iinc 5 1, 3) := by decide +kernel
theorem dL_shine_170 : decode cL_shine 170 = .ok (.goto (-127), 3) := by decide +kernel
theorem dL_shine_173 : decode cL_shine 173 = .ok (.return_, 1) := by decide +kernel
theorem dL_does_0 : decode cL_does 0 = .ok (.iload_n 1, 1) := by decide +kernel
theorem dL_does_1 : decode cL_does 1 = .ok (.bipush 12, 2) := by decide +kernel
theorem dL_does_3 : decode cL_does 3 = .ok (.ishr, 1) := by decide +kernel
theorem dL_does_4 : decode cL_does 4 = .ok (.iconst 3, 1) := by decide +kernel
theorem dL_does_5 : decode cL_does 5 = .ok (.iand, 1) := by decide +kernel
theorem dL_does_6 : decode cL_does 6 = .ok (.ifCond .le 8, 3) := by decide +kernel
theorem dL_does_9 : decode cL_does 9 = .ok (.bipush 10, 2) := by decide +kernel
theorem dL_does_11 : decode cL_does 11 = .ok (.goto 14, 3) := by decide +kernel
theorem dL_does_14 : decode cL_does 14 = .ok (.iconst 1, 1) := by decide +kernel
theorem dL_does_15 : decode cL_does 15 = .ok (.iload_n 1, 1) := by decide +kernel
theorem dL_does_16 : decode cL_does 16 = .ok (.bipush 7, 2) := by decide +kernel
theorem dL_does_18 : decode cL_does 18 = .ok (.ishr, 1) := by decide +kernel
theorem dL_does_19 : decode cL_does 19 = .ok (.bipush 10, 2) := by decide +kernel
theorem dL_does_21 : decode cL_does 21 = .ok (.invokestatic 8, 3) := by decide +kernel
theorem dL_does_24 : decode cL_does 24 = .ok (.iadd, 1) := by decide +kernel
theorem dL_does_25 : decode cL_does 25 = .ok (.istore_n 2, 1) := by decide +kernel
theorem dL_does_26 : decode cL_does 26 = .ok (.iload_n 1, 1) := by decide +kernel
theorem dL_does_27 : decode cL_does 27 = .ok (.iconst 4, 1) := by decide +kernel
theorem dL_does_28 : decode cL_does 28 = .ok (.ishr, 1) := by decide +kernel
theorem dL_does_29 : decode cL_does 29 = .ok (.iconst 3, 1) := by decide +kernel
theorem dL_does_30 : decode cL_does 30 = .ok (.invokestatic 8, 3) := by decide +kernel
theorem dL_does_33 : decode cL_does 33 = .ok (.istore_n 3, 1) := by decide +kernel
theorem dL_does_34 : decode cL_does 34 = .ok (.iload_n 1, 1) := by decide +kernel
theorem dL_does_35 : decode cL_does 35 = .ok (.bipush 15, 2) := by decide +kernel
theorem dL_does_37 : decode cL_does 37 = .ok (.iand, 1) := by decide +kernel
theorem dL_does_38 : decode cL_does 38 = .ok (.tableswitch 215 0 13 #[70, 70, 70, 70, 70, 105, 105, 105, 111, 111, 148, 148, 177, 190], 70) := by decide +kernel
theorem dL_does_108 : decode cL_does 108 = .ok (.aload_n 0, 1) := by decide +kernel
theorem dL_does_109 : decode cL_does 109 = .ok (.iload_n 1, 1) := by decide +kernel
theorem dL_does_110 : decode cL_does 110 = .ok (.bipush 9, 2) := by decide +kernel
theorem dL_does_112 : decode cL_does 112 = .ok (.ishr, 1) := by decide +kernel
theorem dL_does_113 : decode cL_does 113 = .ok (.bipush 7, 2) := by decide +kernel
theorem dL_does_115 : decode cL_does 115 = .ok (.iand, 1) := by decide +kernel
theorem dL_does_116 : decode cL_does 116 = .ok (.ifCond .ne 14, 3) := by decide +kernel
theorem dL_does_119 : decode cL_does 119 = .ok (.iload_n 1, 1) := by decide +kernel
theorem dL_does_120 : decode cL_does 120 = .ok (.iconst 4, 1) := by decide +kernel
theorem dL_does_121 : decode cL_does 121 = .ok (.ishr, 1) := by decide +kernel
theorem dL_does_122 : decode cL_does 122 = .ok (.bipush 8, 2) := by decide +kernel
theorem dL_does_124 : decode cL_does 124 = .ok (.invokestatic 8, 3) := by decide +kernel
theorem dL_does_127 : decode cL_does 127 = .ok (.goto 4, 3) := by decide +kernel
theorem dL_does_130 : decode cL_does 130 = .ok (.iconst 0, 1) := by decide +kernel
theorem dL_does_131 : decode cL_does 131 = .ok (.iload_n 3, 1) := by decide +kernel
theorem dL_does_132 : decode cL_does 132 = .ok (.iload_n 1, 1) := by decide +kernel
theorem dL_does_133 : decode cL_does 133 = .ok (.bipush 6, 2) := by decide +kernel
theorem dL_does_135 : decode cL_does 135 = .ok (.ishr, 1) := by decide +kernel
theorem dL_does_136 : decode cL_does 136 = .ok (.iconst 1, 1) := by decide +kernel
theorem dL_does_137 : decode cL_does 137 = .ok (.iand, 1) := by decide +kernel
theorem dL_does_138 : decode cL_does 138 = .ok (.iload_n 2, 1) := by decide +kernel
theorem dL_does_139 : decode cL_does 139 = .ok (.invokevirtual 20, 3) := by decide +kernel
theorem dL_does_142 : decode cL_does 142 = .ok (.ireturn, 1) := by decide +kernel
theorem dL_does_143 : decode cL_does 143 = .ok (.aload_n 0, 1) := by decide +kernel
theorem dL_does_144 : decode cL_does 144 = .ok (.iload_n 2, 1) := by decide +kernel
theorem dL_does_145 : decode cL_does 145 = .ok (.invokevirtual 24, 3) := by decide +kernel
theorem dL_does_148 : decode cL_does 148 = .ok (.ireturn, 1) := by decide +kernel
theorem dL_does_149 : decode cL_does 149 = .ok (.aload_n 0, 1) := by decide +kernel
theorem dL_does_150 : decode cL_does 150 = .ok (.invokevirtual 27, 3) := by decide +kernel
theorem dL_does_153 : decode cL_does 153 = .ok (.ifCond .ne 10, 3) := by decide +kernel
theorem dL_does_156 : decode cL_does 156 = .ok (.aload_n 0, 1) := by decide +kernel
theorem dL_does_157 : decode cL_does 157 = .ok (.iload_n 1, 1) := by decide +kernel
theorem dL_does_158 : decode cL_does 158 = .ok (.iconst 4, 1) := by decide +kernel
theorem dL_does_159 : decode cL_does 159 = .ok (.ishr, 1) := by decide +kernel
theorem dL_does_160 : decode cL_does 160 = .ok (.invokestatic 31, 3) := by decide +kernel
theorem dL_does_163 : decode cL_does 163 = .ok (.aload_n 0, 1) := by decide +kernel
theorem dL_does_164 : decode cL_does 164 = .ok (.invokevirtual 27, 3) := by decide +kernel
theorem dL_does_167 : decode cL_does 167 = .ok (.iconst 2, 1) := by decide +kernel
theorem dL_does_168 : decode cL_does 168 = .ok (.irem, 1) := by decide +kernel
theorem dL_does_169 : decode cL_does 169 = .ok (.iconst 1, 1) := by decide +kernel
theorem dL_does_170 : decode cL_does 170 = .ok (.if_icmp .ne 11, 3) := by decide +kernel
theorem dL_does_173 : decode cL_does 173 = .ok (.aload_n 0, 1) := by decide +kernel
theorem dL_does_174 : decode cL_does 174 = .ok (.iload_n 2, 1) := by decide +kernel
theorem dL_does_175 : decode cL_does 175 = .ok (.invokevirtual 34, 3) := by decide +kernel
theorem dL_does_178 : decode cL_does 178 = .ok (.goto 7, 3) := by decide +kernel
theorem dL_does_181 : decode cL_does 181 = .ok (.aload_n 0, 1) := by decide +kernel
theorem dL_does_182 : decode cL_does 182 = .ok (.invokevirtual 27, 3) := by decide +kernel
theorem dL_does_185 : decode cL_does 185 = .ok (.ireturn, 1) := by decide +kernel
theorem dL_does_186 : decode cL_does 186 = .ok (.aload_n 0, 1) := by decide +kernel
theorem dL_does_187 : decode cL_does 187 = .ok (.iconst 1, 1) := by decide +kernel
theorem dL_does_188 : decode cL_does 188 = .ok (.iload_n 1, 1) := by decide +kernel
theorem dL_does_189 : decode cL_does 189 = .ok (.iconst 4, 1) := by decide +kernel
theorem dL_does_190 : decode cL_does 190 = .ok (.ishr, 1) := by decide +kernel
theorem dL_does_191 : decode cL_does 191 = .ok (.iload_n 1, 1) := by decide +kernel
theorem dL_does_192 : decode cL_does 192 = .ok (.bipush 8, 2) := by decide +kernel
theorem dL_does_194 : decode cL_does 194 = .ok (.ishr, 1) := by decide +kernel
theorem dL_does_195 : decode cL_does 195 = .ok (.iconst 1, 1) := by decide +kernel
theorem dL_does_196 : decode cL_does 196 = .ok (.iand, 1) := by decide +kernel
theorem dL_does_197 : decode cL_does 197 = .ok (.ifCond .ne 8, 3) := by decide +kernel
theorem dL_does_200 : decode cL_does 200 = .ok (.bipush 20, 2) := by decide +kernel
theorem dL_does_202 : decode cL_does 202 = .ok (.goto 5, 3) := by decide +kernel
theorem dL_does_205 : decode cL_does 205 = .ok (.bipush 99, 2) := by decide +kernel
theorem dL_does_207 : decode cL_does 207 = .ok (.invokestatic 8, 3) := by decide +kernel
theorem dL_does_210 : decode cL_does 210 = .ok (.iadd, 1) := by decide +kernel
theorem dL_does_211 : decode cL_does 211 = .ok (.invokevirtual 37, 3) := by decide +kernel
theorem dL_does_214 : decode cL_does 214 = .ok (.ireturn, 1) := by decide +kernel
theorem dL_does_215 : decode cL_does 215 = .ok (.aload_n 0, 1) := by decide +kernel
theorem dL_does_216 : decode cL_does 216 = .ok (.iload_n 1, 1) := by decide +kernel
theorem dL_does_217 : decode cL_does 217 = .ok (.iconst 4, 1) := by decide +kernel
theorem dL_does_218 : decode cL_does 218 = .ok (.ishr, 1) := by decide +kernel
theorem dL_does_219 : decode cL_does 219 = .ok (.bipush 10, 2) := by decide +kernel
theorem dL_does_221 : decode cL_does 221 = .ok (.invokestatic 8, 3) := by decide +kernel
theorem dL_does_224 : decode cL_does 224 = .ok (.invokevirtual 40, 3) := by decide +kernel
theorem dL_does_227 : decode cL_does 227 = .ok (.ireturn, 1) := by decide +kernel
theorem dL_does_228 : decode cL_does 228 = .ok (.iload_n 1, 1) := by decide +kernel
theorem dL_does_229 : decode cL_does 229 = .ok (.iconst 4, 1) := by decide +kernel
theorem dL_does_230 : decode cL_does 230 = .ok (.ishr, 1) := by decide +kernel
theorem dL_does_231 : decode cL_does 231 = .ok (.iconst 3, 1) := by decide +kernel
theorem dL_does_232 : decode cL_does 232 = .ok (.iand, 1) := by decide +kernel
theorem dL_does_233 : decode cL_does 233 = .ok (.ifCond .le 7, 3) := by decide +kernel
theorem dL_does_236 : decode cL_does 236 = .ok (.iconst 0, 1) := by decide +kernel
theorem dL_does_237 : decode cL_does 237 = .ok (.goto 15, 3) := by decide +kernel
theorem dL_does_240 : decode cL_does 240 = .ok (.aload_n 0, 1) := by decide +kernel
theorem dL_does_241 : decode cL_does 241 = .ok (.iload_n 1, 1) := by decide +kernel
theorem dL_does_242 : decode cL_does 242 = .ok (.bipush 6, 2) := by decide +kernel
theorem dL_does_244 : decode cL_does 244 = .ok (.ishr, 1) := by decide +kernel
theorem dL_does_245 : decode cL_does 245 = .ok (.iconst 3, 1) := by decide +kernel
theorem dL_does_246 : decode cL_does 246 = .ok (.invokestatic 8, 3) := by decide +kernel
theorem dL_does_249 : decode cL_does 249 = .ok (.invokevirtual 43, 3) := by decide +kernel
theorem dL_does_252 : decode cL_does 252 = .ok (.ireturn, 1) := by decide +kernel
theorem dL_does_253 : decode cL_does 253 = .ok (.aload_n 0, 1) := by decide +kernel
theorem dL_does_254 : decode cL_does 254 = .ok (.iload_n 3, 1) := by decide +kernel
theorem dL_does_255 : decode cL_does 255 = .ok (.iload_n 1, 1) := by decide +kernel
theorem dL_does_256 : decode cL_does 256 = .ok (.bipush 6, 2) := by decide +kernel
theorem dL_does_258 : decode cL_does 258 = .ok (.ishr, 1) := by decide +kernel
theorem dL_does_259 : decode cL_does 259 = .ok (.iconst 3, 1) := by decide +kernel
theorem dL_does_260 : decode cL_does 260 = .ok (.invokestatic 8, 3) := by decide +kernel
theorem dL_does_263 : decode cL_does 263 = .ok (.invokevirtual 46, 3) := by decide +kernel
theorem dL_does_266 : decode cL_does 266 = .ok (.ireturn, 1) := by decide +kernel
theorem dL_refusals_0 : decode cL_refusals 0 = .ok (.iconst 0, 1) := by decide +kernel
theorem dL_refusals_1 : decode cL_refusals 1 = .ok (.istore_n 1, 1) := by decide +kernel
theorem dL_refusals_2 : decode cL_refusals 2 = .ok (.iconst 1, 1) := by decide +kernel
theorem dL_refusals_3 : decode cL_refusals 3 = .ok (.istore_n 2, 1) := by decide +kernel
theorem dL_refusals_4 : decode cL_refusals 4 = .ok (.iload_n 2, 1) := by decide +kernel
theorem dL_refusals_5 : decode cL_refusals 5 = .ok (.bipush 7, 2) := by decide +kernel
theorem dL_refusals_7 : decode cL_refusals 7 = .ok (.if_icmp .ge 17, 3) := by decide +kernel
theorem dL_refusals_10 : decode cL_refusals 10 = .ok (.iload_n 1, 1) := by decide +kernel
theorem dL_refusals_11 : decode cL_refusals 11 = .ok (.aload_n 0, 1) := by decide +kernel
theorem dL_refusals_12 : decode cL_refusals 12 = .ok (.iload_n 2, 1) := by decide +kernel
theorem dL_refusals_13 : decode cL_refusals 13 = .ok (.invokevirtual 49, 3) := by decide +kernel
theorem dL_refusals_16 : decode cL_refusals 16 = .ok (.iadd, 1) := by decide +kernel
theorem dL_refusals_17 : decode cL_refusals 17 = .ok (.istore_n 1, 1) := by decide +kernel
theorem dL_refusals_18 : decode cL_refusals 18 = .ok (.iinc 2 1, 3) := by decide +kernel
theorem dL_refusals_21 : decode cL_refusals 21 = .ok (.goto (-17), 3) := by decide +kernel
theorem dL_refusals_24 : decode cL_refusals 24 = .ok (.iload_n 1, 1) := by decide +kernel
theorem dL_refusals_25 : decode cL_refusals 25 = .ok (.ireturn, 1) := by decide +kernel
theorem dL_isFrameSo_0 : decode cL_isFrameSo 0 = .ok (.aload_n 0, 1) := by decide +kernel
theorem dL_isFrameSo_1 : decode cL_isFrameSo 1 = .ok (.iload_n 1, 1) := by decide +kernel
theorem dL_isFrameSo_2 : decode cL_isFrameSo 2 = .ok (.iload_n 2, 1) := by decide +kernel
theorem dL_isFrameSo_3 : decode cL_isFrameSo 3 = .ok (.iload_n 3, 1) := by decide +kernel
theorem dL_isFrameSo_4 : decode cL_isFrameSo 4 = .ok (.iload 4, 2) := by decide +kernel
theorem dL_isFrameSo_6 : decode cL_isFrameSo 6 = .ok (.invokevirtual 52, 3) := by decide +kernel
theorem dL_isFrameSo_9 : decode cL_isFrameSo 9 = .ok (.istore 5, 2) := by decide +kernel
theorem dL_isFrameSo_11 : decode cL_isFrameSo 11 = .ok (.aload_n 0, 1) := by decide +kernel
theorem dL_isFrameSo_12 : decode cL_isFrameSo 12 = .ok (.invokevirtual 55, 3) := by decide +kernel
theorem dL_isFrameSo_15 : decode cL_isFrameSo 15 = .ok (.istore 6, 2) := by decide +kernel
theorem dL_isFrameSo_17 : decode cL_isFrameSo 17 = .ok (.aload_n 0, 1) := by decide +kernel
theorem dL_isFrameSo_18 : decode cL_isFrameSo 18 = .ok (.invokevirtual 58, 3) := by decide +kernel
theorem dL_isFrameSo_21 : decode cL_isFrameSo 21 = .ok (.istore 7, 2) := by decide +kernel
theorem dL_isFrameSo_23 : decode cL_isFrameSo 23 = .ok (.aload_n 0, 1) := by decide +kernel
theorem dL_isFrameSo_24 : decode cL_isFrameSo 24 = .ok (.invokevirtual 61, 3) := by decide +kernel
theorem dL_isFrameSo_27 : decode cL_isFrameSo 27 = .ok (.istore 8, 2) := by decide +kernel
theorem dL_isFrameSo_29 : decode cL_isFrameSo 29 = .ok (.aload_n 0, 1) := by decide +kernel
theorem dL_isFrameSo_30 : decode cL_isFrameSo 30 = .ok (.iload_n 2, 1) := by decide +kernel
theorem dL_isFrameSo_31 : decode cL_isFrameSo 31 = .ok (.invokevirtual 64, 3) := by decide +kernel
theorem dL_isFrameSo_34 : decode cL_isFrameSo 34 = .ok (.istore 9, 2) := by decide +kernel
theorem dL_isFrameSo_36 : decode cL_isFrameSo 36 = .ok (.aload_n 0, 1) := by decide +kernel
theorem dL_isFrameSo_37 : decode cL_isFrameSo 37 = .ok (.iload_n 2, 1) := by decide +kernel
theorem dL_isFrameSo_38 : decode cL_isFrameSo 38 = .ok (.invokevirtual 67, 3) := by decide +kernel
theorem dL_isFrameSo_41 : decode cL_isFrameSo 41 = .ok (.istore 10, 2) := by decide +kernel
theorem dL_isFrameSo_43 : decode cL_isFrameSo 43 = .ok (.aload_n 0, 1) := by decide +kernel
theorem dL_isFrameSo_44 : decode cL_isFrameSo 44 = .ok (.invokevirtual 70, 3) := by decide +kernel
theorem dL_isFrameSo_47 : decode cL_isFrameSo 47 = .ok (.istore 11, 2) := by decide +kernel
theorem dL_isFrameSo_49 : decode cL_isFrameSo 49 = .ok (.aload_n 0, 1) := by decide +kernel
theorem dL_isFrameSo_50 : decode cL_isFrameSo 50 = .ok (.invokevirtual 73, 3) := by decide +kernel
theorem dL_isFrameSo_53 : decode cL_isFrameSo 53 = .ok (.istore 12, 2) := by decide +kernel
theorem dL_isFrameSo_55 : decode cL_isFrameSo 55 = .ok (.aload_n 0, 1) := by decide +kernel
theorem dL_isFrameSo_56 : decode cL_isFrameSo 56 = .ok (.invokestatic 76, 3) := by decide +kernel
theorem dL_isFrameSo_59 : decode cL_isFrameSo 59 = .ok (.istore 13, 2) := by decide +kernel
theorem dL_isFrameSo_61 : decode cL_isFrameSo 61 = .ok (.aload_n 0, 1) := by decide +kernel
theorem dL_isFrameSo_62 : decode cL_isFrameSo 62 = .ok (.iload_n 1, 1) := by decide +kernel
theorem dL_isFrameSo_63 : decode cL_isFrameSo 63 = .ok (.iload_n 2, 1) := by decide +kernel
theorem dL_isFrameSo_64 : decode cL_isFrameSo 64 = .ok (.iload_n 3, 1) := by decide +kernel
theorem dL_isFrameSo_65 : decode cL_isFrameSo 65 = .ok (.iload 4, 2) := by decide +kernel
theorem dL_isFrameSo_67 : decode cL_isFrameSo 67 = .ok (.invokevirtual 20, 3) := by decide +kernel
theorem dL_isFrameSo_70 : decode cL_isFrameSo 70 = .ok (.istore 14, 2) := by decide +kernel
theorem dL_isFrameSo_72 : decode cL_isFrameSo 72 = .ok (.aload_n 0, 1) := by decide +kernel
theorem dL_isFrameSo_73 : decode cL_isFrameSo 73 = .ok (.invokevirtual 55, 3) := by decide +kernel
theorem dL_isFrameSo_76 : decode cL_isFrameSo 76 = .ok (.iload 6, 2) := by decide +kernel
theorem dL_isFrameSo_78 : decode cL_isFrameSo 78 = .ok (.isub, 1) := by decide +kernel
theorem dL_isFrameSo_79 : decode cL_isFrameSo 79 = .ok (.istore 15, 2) := by decide +kernel
theorem dL_isFrameSo_81 : decode cL_isFrameSo 81 = .ok (.iload 6, 2) := by decide +kernel
theorem dL_isFrameSo_83 : decode cL_isFrameSo 83 = .ok (.bipush 10, 2) := by decide +kernel
theorem dL_isFrameSo_85 : decode cL_isFrameSo 85 = .ok (.aload_n 0, 1) := by decide +kernel
theorem dL_isFrameSo_86 : decode cL_isFrameSo 86 = .ok (.invokevirtual 80, 3) := by decide +kernel
theorem dL_isFrameSo_89 : decode cL_isFrameSo 89 = .ok (.isub, 1) := by decide +kernel
theorem dL_isFrameSo_90 : decode cL_isFrameSo 90 = .ok (.if_icmp .le 7, 3) := by decide +kernel
theorem dL_isFrameSo_93 : decode cL_isFrameSo 93 = .ok (.iconst 1, 1) := by decide +kernel
theorem dL_isFrameSo_94 : decode cL_isFrameSo 94 = .ok (.goto 4, 3) := by decide +kernel
theorem dL_isFrameSo_97 : decode cL_isFrameSo 97 = .ok (.iconst 0, 1) := by decide +kernel
theorem dL_isFrameSo_98 : decode cL_isFrameSo 98 = .ok (.istore 16, 2) := by decide +kernel
theorem dL_isFrameSo_100 : decode cL_isFrameSo 100 = .ok (.iload 14, 2) := by decide +kernel
theorem dL_isFrameSo_102 : decode cL_isFrameSo 102 = .ok (.iload 5, 2) := by decide +kernel
theorem dL_isFrameSo_104 : decode cL_isFrameSo 104 = .ok (.if_icmp .ne 93, 3) := by decide +kernel
theorem dL_isFrameSo_107 : decode cL_isFrameSo 107 = .ok (.aload_n 0, 1) := by decide +kernel
theorem dL_isFrameSo_108 : decode cL_isFrameSo 108 = .ok (.invokevirtual 58, 3) := by decide +kernel
theorem dL_isFrameSo_111 : decode cL_isFrameSo 111 = .ok (.iload 7, 2) := by decide +kernel
theorem dL_isFrameSo_113 : decode cL_isFrameSo 113 = .ok (.iconst 1, 1) := by decide +kernel
theorem dL_isFrameSo_114 : decode cL_isFrameSo 114 = .ok (.iadd, 1) := by decide +kernel
theorem dL_isFrameSo_115 : decode cL_isFrameSo 115 = .ok (.if_icmp .ne 82, 3) := by decide +kernel
theorem dL_isFrameSo_118 : decode cL_isFrameSo 118 = .ok (.aload_n 0, 1) := by decide +kernel
theorem dL_isFrameSo_119 : decode cL_isFrameSo 119 = .ok (.invokevirtual 61, 3) := by decide +kernel
theorem dL_isFrameSo_122 : decode cL_isFrameSo 122 = .ok (.iload 8, 2) := by decide +kernel
theorem dL_isFrameSo_124 : decode cL_isFrameSo 124 = .ok (.iload 14, 2) := by decide +kernel
theorem dL_isFrameSo_126 : decode cL_isFrameSo 126 = .ok (.ifCond .ne 7, 3) := by decide +kernel
theorem dL_isFrameSo_129 : decode cL_isFrameSo 129 = .ok (.iconst 1, 1) := by decide +kernel
theorem dL_isFrameSo_130 : decode cL_isFrameSo 130 = .ok (.goto 4, 3) := by decide +kernel
theorem dL_isFrameSo_133 : decode cL_isFrameSo 133 = .ok (.iconst 0, 1) := by decide +kernel
theorem dL_isFrameSo_134 : decode cL_isFrameSo 134 = .ok (.iadd, 1) := by decide +kernel
theorem dL_isFrameSo_135 : decode cL_isFrameSo 135 = .ok (.if_icmp .ne 62, 3) := by decide +kernel
theorem dL_isFrameSo_138 : decode cL_isFrameSo 138 = .ok (.aload_n 0, 1) := by decide +kernel
theorem dL_isFrameSo_139 : decode cL_isFrameSo 139 = .ok (.invokestatic 76, 3) := by decide +kernel
theorem dL_isFrameSo_142 : decode cL_isFrameSo 142 = .ok (.iload 13, 2) := by decide +kernel
theorem dL_isFrameSo_144 : decode cL_isFrameSo 144 = .ok (.iload 14, 2) := by decide +kernel
theorem dL_isFrameSo_146 : decode cL_isFrameSo 146 = .ok (.ifCond .le 7, 3) := by decide +kernel
theorem dL_isFrameSo_149 : decode cL_isFrameSo 149 = .ok (.iconst 1, 1) := by decide +kernel
theorem dL_isFrameSo_150 : decode cL_isFrameSo 150 = .ok (.goto 4, 3) := by decide +kernel
theorem dL_isFrameSo_153 : decode cL_isFrameSo 153 = .ok (.iconst 0, 1) := by decide +kernel
theorem dL_isFrameSo_154 : decode cL_isFrameSo 154 = .ok (.iadd, 1) := by decide +kernel
theorem dL_isFrameSo_155 : decode cL_isFrameSo 155 = .ok (.if_icmp .ne 42, 3) := by decide +kernel
theorem dL_isFrameSo_158 : decode cL_isFrameSo 158 = .ok (.aload_n 0, 1) := by decide +kernel
theorem dL_isFrameSo_159 : decode cL_isFrameSo 159 = .ok (.invokevirtual 55, 3) := by decide +kernel
theorem dL_isFrameSo_162 : decode cL_isFrameSo 162 = .ok (.iconst 1, 1) := by decide +kernel
theorem dL_isFrameSo_163 : decode cL_isFrameSo 163 = .ok (.if_icmp .lt 34, 3) := by decide +kernel
theorem dL_isFrameSo_166 : decode cL_isFrameSo 166 = .ok (.aload_n 0, 1) := by decide +kernel
theorem dL_isFrameSo_167 : decode cL_isFrameSo 167 = .ok (.invokevirtual 55, 3) := by decide +kernel
theorem dL_isFrameSo_170 : decode cL_isFrameSo 170 = .ok (.bipush 10, 2) := by decide +kernel
theorem dL_isFrameSo_172 : decode cL_isFrameSo 172 = .ok (.if_icmp .gt 25, 3) := by decide +kernel
theorem dL_isFrameSo_175 : decode cL_isFrameSo 175 = .ok (.iload 16, 2) := by decide +kernel
theorem dL_isFrameSo_177 : decode cL_isFrameSo 177 = .ok (.ifCond .ne 16, 3) := by decide +kernel
theorem dL_isFrameSo_180 : decode cL_isFrameSo 180 = .ok (.iload 15, 2) := by decide +kernel
theorem dL_isFrameSo_182 : decode cL_isFrameSo 182 = .ok (.iconst 2, 1) := by decide +kernel
theorem dL_isFrameSo_183 : decode cL_isFrameSo 183 = .ok (.if_icmp .ge 14, 3) := by decide +kernel
theorem dL_isFrameSo_186 : decode cL_isFrameSo 186 = .ok (.iload 15, 2) := by decide +kernel
theorem dL_isFrameSo_188 : decode cL_isFrameSo 188 = .ok (.bipush (-2), 2) := by decide +kernel
theorem dL_isFrameSo_190 : decode cL_isFrameSo 190 = .ok (.if_icmp .le 7, 3) := by decide +kernel
theorem dL_isFrameSo_193 : decode cL_isFrameSo 193 = .ok (.iconst 1, 1) := by decide +kernel
theorem dL_isFrameSo_194 : decode cL_isFrameSo 194 = .ok (.goto 4, 3) := by decide +kernel
theorem dL_isFrameSo_197 : decode cL_isFrameSo 197 = .ok (.iconst 0, 1) := by decide +kernel
theorem dL_isFrameSo_198 : decode cL_isFrameSo 198 = .ok (.istore 17, 2) := by decide +kernel
theorem dL_isFrameSo_200 : decode cL_isFrameSo 200 = .ok (.iload 14, 2) := by decide +kernel
theorem dL_isFrameSo_202 : decode cL_isFrameSo 202 = .ok (.ifCond .ne 60, 3) := by decide +kernel
theorem dL_isFrameSo_205 : decode cL_isFrameSo 205 = .ok (.iload 17, 2) := by decide +kernel
theorem dL_isFrameSo_207 : decode cL_isFrameSo 207 = .ok (.ifCond .eq 52, 3) := by decide +kernel
theorem dL_isFrameSo_210 : decode cL_isFrameSo 210 = .ok (.aload_n 0, 1) := by decide +kernel
theorem dL_isFrameSo_211 : decode cL_isFrameSo 211 = .ok (.invokevirtual 73, 3) := by decide +kernel
theorem dL_isFrameSo_214 : decode cL_isFrameSo 214 = .ok (.iload_n 2, 1) := by decide +kernel
theorem dL_isFrameSo_215 : decode cL_isFrameSo 215 = .ok (.if_icmp .ne 44, 3) := by decide +kernel
theorem dL_isFrameSo_218 : decode cL_isFrameSo 218 = .ok (.aload_n 0, 1) := by decide +kernel
theorem dL_isFrameSo_219 : decode cL_isFrameSo 219 = .ok (.invokevirtual 70, 3) := by decide +kernel
theorem dL_isFrameSo_222 : decode cL_isFrameSo 222 = .ok (.ifCond .ne 37, 3) := by decide +kernel
theorem dL_isFrameSo_225 : decode cL_isFrameSo 225 = .ok (.aload_n 0, 1) := by decide +kernel
theorem dL_isFrameSo_226 : decode cL_isFrameSo 226 = .ok (.invokevirtual 83, 3) := by decide +kernel
theorem dL_isFrameSo_229 : decode cL_isFrameSo 229 = .ok (.bipush 61, 2) := by decide +kernel
theorem dL_isFrameSo_231 : decode cL_isFrameSo 231 = .ok (.if_icmp .ne 28, 3) := by decide +kernel
theorem dL_isFrameSo_234 : decode cL_isFrameSo 234 = .ok (.aload_n 0, 1) := by decide +kernel
theorem dL_isFrameSo_235 : decode cL_isFrameSo 235 = .ok (.iload_n 2, 1) := by decide +kernel
theorem dL_isFrameSo_236 : decode cL_isFrameSo 236 = .ok (.invokevirtual 64, 3) := by decide +kernel
theorem dL_isFrameSo_239 : decode cL_isFrameSo 239 = .ok (.iload 9, 2) := by decide +kernel
theorem dL_isFrameSo_241 : decode cL_isFrameSo 241 = .ok (.iload 10, 2) := by decide +kernel
theorem dL_isFrameSo_243 : decode cL_isFrameSo 243 = .ok (.ifCond .le 7, 3) := by decide +kernel
theorem dL_isFrameSo_246 : decode cL_isFrameSo 246 = .ok (.iconst 1, 1) := by decide +kernel
theorem dL_isFrameSo_247 : decode cL_isFrameSo 247 = .ok (.goto 4, 3) := by decide +kernel
theorem dL_isFrameSo_250 : decode cL_isFrameSo 250 = .ok (.iconst 0, 1) := by decide +kernel
theorem dL_isFrameSo_251 : decode cL_isFrameSo 251 = .ok (.iadd, 1) := by decide +kernel
theorem dL_isFrameSo_252 : decode cL_isFrameSo 252 = .ok (.if_icmp .ne 7, 3) := by decide +kernel
theorem dL_isFrameSo_255 : decode cL_isFrameSo 255 = .ok (.iconst 1, 1) := by decide +kernel
theorem dL_isFrameSo_256 : decode cL_isFrameSo 256 = .ok (.goto 4, 3) := by decide +kernel
theorem dL_isFrameSo_259 : decode cL_isFrameSo 259 = .ok (.iconst 0, 1) := by decide +kernel
theorem dL_isFrameSo_260 : decode cL_isFrameSo 260 = .ok (.istore 17, 2) := by decide +kernel
theorem dL_isFrameSo_262 : decode cL_isFrameSo 262 = .ok (.iload 14, 2) := by decide +kernel
theorem dL_isFrameSo_264 : decode cL_isFrameSo 264 = .ok (.iconst (-1), 1) := by decide +kernel
theorem dL_isFrameSo_265 : decode cL_isFrameSo 265 = .ok (.if_icmp .ne 80, 3) := by decide +kernel
theorem dL_isFrameSo_268 : decode cL_isFrameSo 268 = .ok (.iload 17, 2) := by decide +kernel
theorem dL_isFrameSo_270 : decode cL_isFrameSo 270 = .ok (.ifCond .eq 72, 3) := by decide +kernel
theorem dL_isFrameSo_273 : decode cL_isFrameSo 273 = .ok (.iload 12, 2) := by decide +kernel
theorem dL_isFrameSo_275 : decode cL_isFrameSo 275 = .ok (.iload_n 2, 1) := by decide +kernel
theorem dL_isFrameSo_276 : decode cL_isFrameSo 276 = .ok (.if_icmp .ne 66, 3) := by decide +kernel
theorem dL_isFrameSo_279 : decode cL_isFrameSo 279 = .ok (.aload_n 0, 1) := by decide +kernel
theorem dL_isFrameSo_280 : decode cL_isFrameSo 280 = .ok (.invokevirtual 73, 3) := by decide +kernel
theorem dL_isFrameSo_283 : decode cL_isFrameSo 283 = .ok (.iload_n 2, 1) := by decide +kernel
theorem dL_isFrameSo_284 : decode cL_isFrameSo 284 = .ok (.if_icmp .ne 58, 3) := by decide +kernel
theorem dL_isFrameSo_287 : decode cL_isFrameSo 287 = .ok (.aload_n 0, 1) := by decide +kernel
theorem dL_isFrameSo_288 : decode cL_isFrameSo 288 = .ok (.invokevirtual 70, 3) := by decide +kernel
theorem dL_isFrameSo_291 : decode cL_isFrameSo 291 = .ok (.iload 11, 2) := by decide +kernel
theorem dL_isFrameSo_293 : decode cL_isFrameSo 293 = .ok (.iconst 1, 1) := by decide +kernel
theorem dL_isFrameSo_294 : decode cL_isFrameSo 294 = .ok (.iadd, 1) := by decide +kernel
theorem dL_isFrameSo_295 : decode cL_isFrameSo 295 = .ok (.if_icmp .ne 47, 3) := by decide +kernel
theorem dL_isFrameSo_298 : decode cL_isFrameSo 298 = .ok (.aload_n 0, 1) := by decide +kernel
theorem dL_isFrameSo_299 : decode cL_isFrameSo 299 = .ok (.invokevirtual 83, 3) := by decide +kernel
theorem dL_isFrameSo_302 : decode cL_isFrameSo 302 = .ok (.bipush 61, 2) := by decide +kernel
theorem dL_isFrameSo_304 : decode cL_isFrameSo 304 = .ok (.if_icmp .ne 38, 3) := by decide +kernel
theorem dL_isFrameSo_307 : decode cL_isFrameSo 307 = .ok (.aload_n 0, 1) := by decide +kernel
theorem dL_isFrameSo_308 : decode cL_isFrameSo 308 = .ok (.iload_n 2, 1) := by decide +kernel
theorem dL_isFrameSo_309 : decode cL_isFrameSo 309 = .ok (.invokevirtual 64, 3) := by decide +kernel
theorem dL_isFrameSo_312 : decode cL_isFrameSo 312 = .ok (.iload 9, 2) := by decide +kernel
theorem dL_isFrameSo_314 : decode cL_isFrameSo 314 = .ok (.iload 10, 2) := by decide +kernel
theorem dL_isFrameSo_316 : decode cL_isFrameSo 316 = .ok (.iconst 2, 1) := by decide +kernel
theorem dL_isFrameSo_317 : decode cL_isFrameSo 317 = .ok (.if_icmp .ne 16, 3) := by decide +kernel
theorem dL_isFrameSo_320 : decode cL_isFrameSo 320 = .ok (.iload 11, 2) := by decide +kernel
theorem dL_isFrameSo_322 : decode cL_isFrameSo 322 = .ok (.iconst 1, 1) := by decide +kernel
theorem dL_isFrameSo_323 : decode cL_isFrameSo 323 = .ok (.iadd, 1) := by decide +kernel
theorem dL_isFrameSo_324 : decode cL_isFrameSo 324 = .ok (.iconst 2, 1) := by decide +kernel
theorem dL_isFrameSo_325 : decode cL_isFrameSo 325 = .ok (.irem, 1) := by decide +kernel
theorem dL_isFrameSo_326 : decode cL_isFrameSo 326 = .ok (.ifCond .ne 7, 3) := by decide +kernel
theorem dL_isFrameSo_329 : decode cL_isFrameSo 329 = .ok (.iconst 1, 1) := by decide +kernel
theorem dL_isFrameSo_330 : decode cL_isFrameSo 330 = .ok (.goto 4, 3) := by decide +kernel
theorem dL_isFrameSo_333 : decode cL_isFrameSo 333 = .ok (.iconst 0, 1) := by decide +kernel
theorem dL_isFrameSo_334 : decode cL_isFrameSo 334 = .ok (.iadd, 1) := by decide +kernel
theorem dL_isFrameSo_335 : decode cL_isFrameSo 335 = .ok (.if_icmp .ne 7, 3) := by decide +kernel
theorem dL_isFrameSo_338 : decode cL_isFrameSo 338 = .ok (.iconst 1, 1) := by decide +kernel
theorem dL_isFrameSo_339 : decode cL_isFrameSo 339 = .ok (.goto 4, 3) := by decide +kernel
theorem dL_isFrameSo_342 : decode cL_isFrameSo 342 = .ok (.iconst 0, 1) := by decide +kernel
theorem dL_isFrameSo_343 : decode cL_isFrameSo 343 = .ok (.istore 17, 2) := by decide +kernel
theorem dL_isFrameSo_345 : decode cL_isFrameSo 345 = .ok (.iload 14, 2) := by decide +kernel
theorem dL_isFrameSo_347 : decode cL_isFrameSo 347 = .ok (.ifCond .le 50, 3) := by decide +kernel
theorem dL_isFrameSo_350 : decode cL_isFrameSo 350 = .ok (.iload 17, 2) := by decide +kernel
theorem dL_isFrameSo_352 : decode cL_isFrameSo 352 = .ok (.ifCond .eq 42, 3) := by decide +kernel
theorem dL_isFrameSo_355 : decode cL_isFrameSo 355 = .ok (.iload 14, 2) := by decide +kernel
theorem dL_isFrameSo_357 : decode cL_isFrameSo 357 = .ok (.bipush 6, 2) := by decide +kernel
theorem dL_isFrameSo_359 : decode cL_isFrameSo 359 = .ok (.if_icmp .ge 35, 3) := by decide +kernel
theorem dL_isFrameSo_362 : decode cL_isFrameSo 362 = .ok (.aload_n 0, 1) := by decide +kernel
theorem dL_isFrameSo_363 : decode cL_isFrameSo 363 = .ok (.invokevirtual 73, 3) := by decide +kernel
theorem dL_isFrameSo_366 : decode cL_isFrameSo 366 = .ok (.iload 12, 2) := by decide +kernel
theorem dL_isFrameSo_368 : decode cL_isFrameSo 368 = .ok (.if_icmp .ne 26, 3) := by decide +kernel
theorem dL_isFrameSo_371 : decode cL_isFrameSo 371 = .ok (.aload_n 0, 1) := by decide +kernel
theorem dL_isFrameSo_372 : decode cL_isFrameSo 372 = .ok (.invokevirtual 70, 3) := by decide +kernel
theorem dL_isFrameSo_375 : decode cL_isFrameSo 375 = .ok (.iload 11, 2) := by decide +kernel
theorem dL_isFrameSo_377 : decode cL_isFrameSo 377 = .ok (.if_icmp .ne 17, 3) := by decide +kernel
theorem dL_isFrameSo_380 : decode cL_isFrameSo 380 = .ok (.aload_n 0, 1) := by decide +kernel
theorem dL_isFrameSo_381 : decode cL_isFrameSo 381 = .ok (.iload_n 2, 1) := by decide +kernel
theorem dL_isFrameSo_382 : decode cL_isFrameSo 382 = .ok (.invokevirtual 64, 3) := by decide +kernel
theorem dL_isFrameSo_385 : decode cL_isFrameSo 385 = .ok (.iload 9, 2) := by decide +kernel
theorem dL_isFrameSo_387 : decode cL_isFrameSo 387 = .ok (.if_icmp .ne 7, 3) := by decide +kernel
theorem dL_isFrameSo_390 : decode cL_isFrameSo 390 = .ok (.iconst 1, 1) := by decide +kernel
theorem dL_isFrameSo_391 : decode cL_isFrameSo 391 = .ok (.goto 4, 3) := by decide +kernel
theorem dL_isFrameSo_394 : decode cL_isFrameSo 394 = .ok (.iconst 0, 1) := by decide +kernel
theorem dL_isFrameSo_395 : decode cL_isFrameSo 395 = .ok (.istore 17, 2) := by decide +kernel
theorem dL_isFrameSo_397 : decode cL_isFrameSo 397 = .ok (.iload 14, 2) := by decide +kernel
theorem dL_isFrameSo_399 : decode cL_isFrameSo 399 = .ok (.ifCond .gt 58, 3) := by decide +kernel
theorem dL_isFrameSo_402 : decode cL_isFrameSo 402 = .ok (.aload_n 0, 1) := by decide +kernel
theorem dL_isFrameSo_403 : decode cL_isFrameSo 403 = .ok (.invokevirtual 80, 3) := by decide +kernel
theorem dL_isFrameSo_406 : decode cL_isFrameSo 406 = .ok (.ifCond .ne 51, 3) := by decide +kernel
theorem dL_isFrameSo_409 : decode cL_isFrameSo 409 = .ok (.aload_n 0, 1) := by decide +kernel
theorem dL_isFrameSo_410 : decode cL_isFrameSo 410 = .ok (.invokevirtual 55, 3) := by decide +kernel
theorem dL_isFrameSo_413 : decode cL_isFrameSo 413 = .ok (.bipush 10, 2) := by decide +kernel
theorem dL_isFrameSo_415 : decode cL_isFrameSo 415 = .ok (.if_icmp .ne 42, 3) := by decide +kernel
theorem dL_isFrameSo_418 : decode cL_isFrameSo 418 = .ok (.iload 17, 2) := by decide +kernel
theorem dL_isFrameSo_420 : decode cL_isFrameSo 420 = .ok (.ifCond .eq 34, 3) := by decide +kernel
theorem dL_isFrameSo_423 : decode cL_isFrameSo 423 = .ok (.aload_n 0, 1) := by decide +kernel
theorem dL_isFrameSo_424 : decode cL_isFrameSo 424 = .ok (.iload_n 1, 1) := by decide +kernel
theorem dL_isFrameSo_425 : decode cL_isFrameSo 425 = .ok (.iload_n 2, 1) := by decide +kernel
theorem dL_isFrameSo_426 : decode cL_isFrameSo 426 = .ok (.iload_n 3, 1) := by decide +kernel
theorem dL_isFrameSo_427 : decode cL_isFrameSo 427 = .ok (.bipush 10, 2) := by decide +kernel
theorem dL_isFrameSo_429 : decode cL_isFrameSo 429 = .ok (.invokevirtual 52, 3) := by decide +kernel
theorem dL_isFrameSo_432 : decode cL_isFrameSo 432 = .ok (.iconst (-1), 1) := by decide +kernel
theorem dL_isFrameSo_433 : decode cL_isFrameSo 433 = .ok (.if_icmp .ne 21, 3) := by decide +kernel
theorem dL_isFrameSo_436 : decode cL_isFrameSo 436 = .ok (.aload_n 0, 1) := by decide +kernel
theorem dL_isFrameSo_437 : decode cL_isFrameSo 437 = .ok (.iload_n 1, 1) := by decide +kernel
theorem dL_isFrameSo_438 : decode cL_isFrameSo 438 = .ok (.iload_n 2, 1) := by decide +kernel
theorem dL_isFrameSo_439 : decode cL_isFrameSo 439 = .ok (.iconst 1, 1) := by decide +kernel
theorem dL_isFrameSo_440 : decode cL_isFrameSo 440 = .ok (.iload_n 3, 1) := by decide +kernel
theorem dL_isFrameSo_441 : decode cL_isFrameSo 441 = .ok (.isub, 1) := by decide +kernel
theorem dL_isFrameSo_442 : decode cL_isFrameSo 442 = .ok (.bipush 10, 2) := by decide +kernel
theorem dL_isFrameSo_444 : decode cL_isFrameSo 444 = .ok (.invokevirtual 52, 3) := by decide +kernel
theorem dL_isFrameSo_447 : decode cL_isFrameSo 447 = .ok (.ifCond .ne 7, 3) := by decide +kernel
theorem dL_isFrameSo_450 : decode cL_isFrameSo 450 = .ok (.iconst 1, 1) := by decide +kernel
theorem dL_isFrameSo_451 : decode cL_isFrameSo 451 = .ok (.goto 4, 3) := by decide +kernel
theorem dL_isFrameSo_454 : decode cL_isFrameSo 454 = .ok (.iconst 0, 1) := by decide +kernel
theorem dL_isFrameSo_455 : decode cL_isFrameSo 455 = .ok (.istore 17, 2) := by decide +kernel
theorem dL_isFrameSo_457 : decode cL_isFrameSo 457 = .ok (.aload_n 0, 1) := by decide +kernel
theorem dL_isFrameSo_458 : decode cL_isFrameSo 458 = .ok (.invokevirtual 86, 3) := by decide +kernel
theorem dL_isFrameSo_461 : decode cL_isFrameSo 461 = .ok (.istore 18, 2) := by decide +kernel
theorem dL_isFrameSo_463 : decode cL_isFrameSo 463 = .ok (.iload 17, 2) := by decide +kernel
theorem dL_isFrameSo_465 : decode cL_isFrameSo 465 = .ok (.ifCond .eq 39, 3) := by decide +kernel
theorem dL_isFrameSo_468 : decode cL_isFrameSo 468 = .ok (.iload 18, 2) := by decide +kernel
theorem dL_isFrameSo_470 : decode cL_isFrameSo 470 = .ok (.ifCond .lt 34, 3) := by decide +kernel
theorem dL_isFrameSo_473 : decode cL_isFrameSo 473 = .ok (.aload_n 0, 1) := by decide +kernel
theorem dL_isFrameSo_474 : decode cL_isFrameSo 474 = .ok (.invokevirtual 58, 3) := by decide +kernel
theorem dL_isFrameSo_477 : decode cL_isFrameSo 477 = .ok (.iload 7, 2) := by decide +kernel
theorem dL_isFrameSo_479 : decode cL_isFrameSo 479 = .ok (.if_icmp .ne 25, 3) := by decide +kernel
theorem dL_isFrameSo_482 : decode cL_isFrameSo 482 = .ok (.aload_n 0, 1) := by decide +kernel
theorem dL_isFrameSo_483 : decode cL_isFrameSo 483 = .ok (.invokevirtual 55, 3) := by decide +kernel
theorem dL_isFrameSo_486 : decode cL_isFrameSo 486 = .ok (.iload 6, 2) := by decide +kernel
theorem dL_isFrameSo_488 : decode cL_isFrameSo 488 = .ok (.if_icmp .ne 16, 3) := by decide +kernel
theorem dL_isFrameSo_491 : decode cL_isFrameSo 491 = .ok (.aload_n 0, 1) := by decide +kernel
theorem dL_isFrameSo_492 : decode cL_isFrameSo 492 = .ok (.invokevirtual 70, 3) := by decide +kernel
theorem dL_isFrameSo_495 : decode cL_isFrameSo 495 = .ok (.iload 11, 2) := by decide +kernel
theorem dL_isFrameSo_497 : decode cL_isFrameSo 497 = .ok (.if_icmp .ne 7, 3) := by decide +kernel
theorem dL_isFrameSo_500 : decode cL_isFrameSo 500 = .ok (.iconst 1, 1) := by decide +kernel
theorem dL_isFrameSo_501 : decode cL_isFrameSo 501 = .ok (.goto 4, 3) := by decide +kernel
theorem dL_isFrameSo_504 : decode cL_isFrameSo 504 = .ok (.iconst 0, 1) := by decide +kernel
theorem dL_isFrameSo_505 : decode cL_isFrameSo 505 = .ok (.ireturn, 1) := by decide +kernel
theorem dL_areForecastsSo_0 : decode cL_areForecastsSo 0 = .ok (.aload_n 0, 1) := by decide +kernel
theorem dL_areForecastsSo_1 : decode cL_areForecastsSo 1 = .ok (.invokevirtual 89, 3) := by decide +kernel
theorem dL_areForecastsSo_4 : decode cL_areForecastsSo 4 = .ok (.istore_n 2, 1) := by decide +kernel
theorem dL_areForecastsSo_5 : decode cL_areForecastsSo 5 = .ok (.aload_n 0, 1) := by decide +kernel
theorem dL_areForecastsSo_6 : decode cL_areForecastsSo 6 = .ok (.invokevirtual 92, 3) := by decide +kernel
theorem dL_areForecastsSo_9 : decode cL_areForecastsSo 9 = .ok (.istore_n 3, 1) := by decide +kernel
theorem dL_areForecastsSo_10 : decode cL_areForecastsSo 10 = .ok (.aload_n 0, 1) := by decide +kernel
theorem dL_areForecastsSo_11 : decode cL_areForecastsSo 11 = .ok (.invokevirtual 83, 3) := by decide +kernel
theorem dL_areForecastsSo_14 : decode cL_areForecastsSo 14 = .ok (.istore 4, 2) := by decide +kernel
theorem dL_areForecastsSo_16 : decode cL_areForecastsSo 16 = .ok (.iload 4, 2) := by decide +kernel
theorem dL_areForecastsSo_18 : decode cL_areForecastsSo 18 = .ok (.iconst (-1), 1) := by decide +kernel
theorem dL_areForecastsSo_19 : decode cL_areForecastsSo 19 = .ok (.if_icmp .ne 7, 3) := by decide +kernel
theorem dL_areForecastsSo_22 : decode cL_areForecastsSo 22 = .ok (.iconst 1, 1) := by decide +kernel
theorem dL_areForecastsSo_23 : decode cL_areForecastsSo 23 = .ok (.goto 4, 3) := by decide +kernel
theorem dL_areForecastsSo_26 : decode cL_areForecastsSo 26 = .ok (.iconst 0, 1) := by decide +kernel
theorem dL_areForecastsSo_27 : decode cL_areForecastsSo 27 = .ok (.aload_n 0, 1) := by decide +kernel
theorem dL_areForecastsSo_28 : decode cL_areForecastsSo 28 = .ok (.invokevirtual 73, 3) := by decide +kernel
theorem dL_areForecastsSo_31 : decode cL_areForecastsSo 31 = .ok (.iconst (-1), 1) := by decide +kernel
theorem dL_areForecastsSo_32 : decode cL_areForecastsSo 32 = .ok (.if_icmp .ne 7, 3) := by decide +kernel
theorem dL_areForecastsSo_35 : decode cL_areForecastsSo 35 = .ok (.iconst 1, 1) := by decide +kernel
theorem dL_areForecastsSo_36 : decode cL_areForecastsSo 36 = .ok (.goto 4, 3) := by decide +kernel
theorem dL_areForecastsSo_39 : decode cL_areForecastsSo 39 = .ok (.iconst 0, 1) := by decide +kernel
theorem dL_areForecastsSo_40 : decode cL_areForecastsSo 40 = .ok (.if_icmp .ne 21, 3) := by decide +kernel
theorem dL_areForecastsSo_43 : decode cL_areForecastsSo 43 = .ok (.aload_n 0, 1) := by decide +kernel
theorem dL_areForecastsSo_44 : decode cL_areForecastsSo 44 = .ok (.invokevirtual 73, 3) := by decide +kernel
theorem dL_areForecastsSo_47 : decode cL_areForecastsSo 47 = .ok (.ifCond .ge 10, 3) := by decide +kernel
theorem dL_areForecastsSo_50 : decode cL_areForecastsSo 50 = .ok (.aload_n 0, 1) := by decide +kernel
theorem dL_areForecastsSo_51 : decode cL_areForecastsSo 51 = .ok (.invokevirtual 70, 3) := by decide +kernel
theorem dL_areForecastsSo_54 : decode cL_areForecastsSo 54 = .ok (.ifCond .ne 7, 3) := by decide +kernel
theorem dL_areForecastsSo_57 : decode cL_areForecastsSo 57 = .ok (.iconst 1, 1) := by decide +kernel
theorem dL_areForecastsSo_58 : decode cL_areForecastsSo 58 = .ok (.goto 4, 3) := by decide +kernel
theorem dL_areForecastsSo_61 : decode cL_areForecastsSo 61 = .ok (.iconst 0, 1) := by decide +kernel
theorem dL_areForecastsSo_62 : decode cL_areForecastsSo 62 = .ok (.istore 5, 2) := by decide +kernel
theorem dL_areForecastsSo_64 : decode cL_areForecastsSo 64 = .ok (.iconst 1, 1) := by decide +kernel
theorem dL_areForecastsSo_65 : decode cL_areForecastsSo 65 = .ok (.istore 6, 2) := by decide +kernel
theorem dL_areForecastsSo_67 : decode cL_areForecastsSo 67 = .ok (.iload 6, 2) := by decide +kernel
theorem dL_areForecastsSo_69 : decode cL_areForecastsSo 69 = .ok (.bipush 10, 2) := by decide +kernel
theorem dL_areForecastsSo_71 : decode cL_areForecastsSo 71 = .ok (.if_icmp .gt 60, 3) := by decide +kernel
theorem dL_areForecastsSo_74 : decode cL_areForecastsSo 74 = .ok (.aload_n 0, 1) := by decide +kernel
theorem dL_areForecastsSo_75 : decode cL_areForecastsSo 75 = .ok (.iload_n 1, 1) := by decide +kernel
theorem dL_areForecastsSo_76 : decode cL_areForecastsSo 76 = .ok (.iconst 0, 1) := by decide +kernel
theorem dL_areForecastsSo_77 : decode cL_areForecastsSo 77 = .ok (.iconst 0, 1) := by decide +kernel
theorem dL_areForecastsSo_78 : decode cL_areForecastsSo 78 = .ok (.iload 6, 2) := by decide +kernel
theorem dL_areForecastsSo_80 : decode cL_areForecastsSo 80 = .ok (.invokevirtual 52, 3) := by decide +kernel
theorem dL_areForecastsSo_83 : decode cL_areForecastsSo 83 = .ok (.ifCond .gt 7, 3) := by decide +kernel
theorem dL_areForecastsSo_86 : decode cL_areForecastsSo 86 = .ok (.iconst 1, 1) := by decide +kernel
theorem dL_areForecastsSo_87 : decode cL_areForecastsSo 87 = .ok (.goto 4, 3) := by decide +kernel
theorem dL_areForecastsSo_90 : decode cL_areForecastsSo 90 = .ok (.iconst 0, 1) := by decide +kernel
theorem dL_areForecastsSo_91 : decode cL_areForecastsSo 91 = .ok (.istore 7, 2) := by decide +kernel
theorem dL_areForecastsSo_93 : decode cL_areForecastsSo 93 = .ok (.iload 5, 2) := by decide +kernel
theorem dL_areForecastsSo_95 : decode cL_areForecastsSo 95 = .ok (.ifCond .eq 27, 3) := by decide +kernel
theorem dL_areForecastsSo_98 : decode cL_areForecastsSo 98 = .ok (.iload 7, 2) := by decide +kernel
theorem dL_areForecastsSo_100 : decode cL_areForecastsSo 100 = .ok (.iload_n 2, 1) := by decide +kernel
theorem dL_areForecastsSo_101 : decode cL_areForecastsSo 101 = .ok (.ifCond .le 13, 3) := by decide +kernel
theorem dL_areForecastsSo_104 : decode cL_areForecastsSo 104 = .ok (.iload 6, 2) := by decide +kernel
theorem dL_areForecastsSo_106 : decode cL_areForecastsSo 106 = .ok (.iload_n 2, 1) := by decide +kernel
theorem dL_areForecastsSo_107 : decode cL_areForecastsSo 107 = .ok (.if_icmp .lt 7, 3) := by decide +kernel
theorem dL_areForecastsSo_110 : decode cL_areForecastsSo 110 = .ok (.iconst 1, 1) := by decide +kernel
theorem dL_areForecastsSo_111 : decode cL_areForecastsSo 111 = .ok (.goto 4, 3) := by decide +kernel
theorem dL_areForecastsSo_114 : decode cL_areForecastsSo 114 = .ok (.iconst 0, 1) := by decide +kernel
theorem dL_areForecastsSo_115 : decode cL_areForecastsSo 115 = .ok (.if_icmp .ne 7, 3) := by decide +kernel
theorem dL_areForecastsSo_118 : decode cL_areForecastsSo 118 = .ok (.iconst 1, 1) := by decide +kernel
theorem dL_areForecastsSo_119 : decode cL_areForecastsSo 119 = .ok (.goto 4, 3) := by decide +kernel
theorem dL_areForecastsSo_122 : decode cL_areForecastsSo 122 = .ok (.iconst 0, 1) := by decide +kernel
theorem dL_areForecastsSo_123 : decode cL_areForecastsSo 123 = .ok (.istore 5, 2) := by decide +kernel
theorem dL_areForecastsSo_125 : decode cL_areForecastsSo 125 = .ok (.iinc 6 1, 3) := by decide +kernel
theorem dL_areForecastsSo_128 : decode cL_areForecastsSo 128 = .ok (.goto (-61), 3) := by decide +kernel
theorem dL_areForecastsSo_131 : decode cL_areForecastsSo 131 = .ok (.iload 5, 2) := by decide +kernel
theorem dL_areForecastsSo_133 : decode cL_areForecastsSo 133 = .ok (.ifCond .eq 47, 3) := by decide +kernel
theorem dL_areForecastsSo_136 : decode cL_areForecastsSo 136 = .ok (.iload_n 3, 1) := by decide +kernel
theorem dL_areForecastsSo_137 : decode cL_areForecastsSo 137 = .ok (.ifCond .ne 7, 3) := by decide +kernel
theorem dL_areForecastsSo_140 : decode cL_areForecastsSo 140 = .ok (.iconst 1, 1) := by decide +kernel
theorem dL_areForecastsSo_141 : decode cL_areForecastsSo 141 = .ok (.goto 4, 3) := by decide +kernel
theorem dL_areForecastsSo_144 : decode cL_areForecastsSo 144 = .ok (.iconst 0, 1) := by decide +kernel
theorem dL_areForecastsSo_145 : decode cL_areForecastsSo 145 = .ok (.aload_n 0, 1) := by decide +kernel
theorem dL_areForecastsSo_146 : decode cL_areForecastsSo 146 = .ok (.iload_n 1, 1) := by decide +kernel
theorem dL_areForecastsSo_147 : decode cL_areForecastsSo 147 = .ok (.iconst 0, 1) := by decide +kernel
theorem dL_areForecastsSo_148 : decode cL_areForecastsSo 148 = .ok (.iconst 0, 1) := by decide +kernel
theorem dL_areForecastsSo_149 : decode cL_areForecastsSo 149 = .ok (.bipush 10, 2) := by decide +kernel
theorem dL_areForecastsSo_151 : decode cL_areForecastsSo 151 = .ok (.invokevirtual 52, 3) := by decide +kernel
theorem dL_areForecastsSo_154 : decode cL_areForecastsSo 154 = .ok (.ifCond .gt 7, 3) := by decide +kernel
theorem dL_areForecastsSo_157 : decode cL_areForecastsSo 157 = .ok (.iconst 1, 1) := by decide +kernel
theorem dL_areForecastsSo_158 : decode cL_areForecastsSo 158 = .ok (.goto 4, 3) := by decide +kernel
theorem dL_areForecastsSo_161 : decode cL_areForecastsSo 161 = .ok (.iconst 0, 1) := by decide +kernel
theorem dL_areForecastsSo_162 : decode cL_areForecastsSo 162 = .ok (.if_icmp .ne 18, 3) := by decide +kernel
theorem dL_areForecastsSo_165 : decode cL_areForecastsSo 165 = .ok (.iload_n 3, 1) := by decide +kernel
theorem dL_areForecastsSo_166 : decode cL_areForecastsSo 166 = .ok (.iconst (-1), 1) := by decide +kernel
theorem dL_areForecastsSo_167 : decode cL_areForecastsSo 167 = .ok (.if_icmp .lt 13, 3) := by decide +kernel
theorem dL_areForecastsSo_170 : decode cL_areForecastsSo 170 = .ok (.iload_n 3, 1) := by decide +kernel
theorem dL_areForecastsSo_171 : decode cL_areForecastsSo 171 = .ok (.bipush 20, 2) := by decide +kernel
theorem dL_areForecastsSo_173 : decode cL_areForecastsSo 173 = .ok (.if_icmp .gt 7, 3) := by decide +kernel
theorem dL_areForecastsSo_176 : decode cL_areForecastsSo 176 = .ok (.iconst 1, 1) := by decide +kernel
theorem dL_areForecastsSo_177 : decode cL_areForecastsSo 177 = .ok (.goto 4, 3) := by decide +kernel
theorem dL_areForecastsSo_180 : decode cL_areForecastsSo 180 = .ok (.iconst 0, 1) := by decide +kernel
theorem dL_areForecastsSo_181 : decode cL_areForecastsSo 181 = .ok (.istore 5, 2) := by decide +kernel
theorem dL_areForecastsSo_183 : decode cL_areForecastsSo 183 = .ok (.iload 4, 2) := by decide +kernel
theorem dL_areForecastsSo_185 : decode cL_areForecastsSo 185 = .ok (.iconst 1, 1) := by decide +kernel
theorem dL_areForecastsSo_186 : decode cL_areForecastsSo 186 = .ok (.if_icmp .le 126, 3) := by decide +kernel
theorem dL_areForecastsSo_189 : decode cL_areForecastsSo 189 = .ok (.aload_n 0, 1) := by decide +kernel
theorem dL_areForecastsSo_190 : decode cL_areForecastsSo 190 = .ok (.iload 4, 2) := by decide +kernel
theorem dL_areForecastsSo_192 : decode cL_areForecastsSo 192 = .ok (.iconst 1, 1) := by decide +kernel
theorem dL_areForecastsSo_193 : decode cL_areForecastsSo 193 = .ok (.isub, 1) := by decide +kernel
theorem dL_areForecastsSo_194 : decode cL_areForecastsSo 194 = .ok (.invokevirtual 37, 3) := by decide +kernel
theorem dL_areForecastsSo_197 : decode cL_areForecastsSo 197 = .ok (.istore 6, 2) := by decide +kernel
theorem dL_areForecastsSo_199 : decode cL_areForecastsSo 199 = .ok (.iload 5, 2) := by decide +kernel
theorem dL_areForecastsSo_201 : decode cL_areForecastsSo 201 = .ok (.ifCond .eq 29, 3) := by decide +kernel
theorem dL_areForecastsSo_204 : decode cL_areForecastsSo 204 = .ok (.aload_n 0, 1) := by decide +kernel
theorem dL_areForecastsSo_205 : decode cL_areForecastsSo 205 = .ok (.invokevirtual 73, 3) := by decide +kernel
theorem dL_areForecastsSo_208 : decode cL_areForecastsSo 208 = .ok (.ifCond .lt 22, 3) := by decide +kernel
theorem dL_areForecastsSo_211 : decode cL_areForecastsSo 211 = .ok (.aload_n 0, 1) := by decide +kernel
theorem dL_areForecastsSo_212 : decode cL_areForecastsSo 212 = .ok (.invokevirtual 83, 3) := by decide +kernel
theorem dL_areForecastsSo_215 : decode cL_areForecastsSo 215 = .ok (.iconst 1, 1) := by decide +kernel
theorem dL_areForecastsSo_216 : decode cL_areForecastsSo 216 = .ok (.if_icmp .ne 14, 3) := by decide +kernel
theorem dL_areForecastsSo_219 : decode cL_areForecastsSo 219 = .ok (.iload 6, 2) := by decide +kernel
theorem dL_areForecastsSo_221 : decode cL_areForecastsSo 221 = .ok (.bipush 60, 2) := by decide +kernel
theorem dL_areForecastsSo_223 : decode cL_areForecastsSo 223 = .ok (.if_icmp .ne 7, 3) := by decide +kernel
theorem dL_areForecastsSo_226 : decode cL_areForecastsSo 226 = .ok (.iconst 1, 1) := by decide +kernel
theorem dL_areForecastsSo_227 : decode cL_areForecastsSo 227 = .ok (.goto 4, 3) := by decide +kernel
theorem dL_areForecastsSo_230 : decode cL_areForecastsSo 230 = .ok (.iconst 0, 1) := by decide +kernel
theorem dL_areForecastsSo_231 : decode cL_areForecastsSo 231 = .ok (.istore 5, 2) := by decide +kernel
theorem dL_areForecastsSo_233 : decode cL_areForecastsSo 233 = .ok (.aload_n 0, 1) := by decide +kernel
theorem dL_areForecastsSo_234 : decode cL_areForecastsSo 234 = .ok (.iconst 1, 1) := by decide +kernel
theorem dL_areForecastsSo_235 : decode cL_areForecastsSo 235 = .ok (.invokevirtual 37, 3) := by decide +kernel
theorem dL_areForecastsSo_238 : decode cL_areForecastsSo 238 = .ok (.istore 6, 2) := by decide +kernel
theorem dL_areForecastsSo_240 : decode cL_areForecastsSo 240 = .ok (.iload 5, 2) := by decide +kernel
theorem dL_areForecastsSo_242 : decode cL_areForecastsSo 242 = .ok (.ifCond .eq 29, 3) := by decide +kernel
theorem dL_areForecastsSo_245 : decode cL_areForecastsSo 245 = .ok (.aload_n 0, 1) := by decide +kernel
theorem dL_areForecastsSo_246 : decode cL_areForecastsSo 246 = .ok (.invokevirtual 73, 3) := by decide +kernel
theorem dL_areForecastsSo_249 : decode cL_areForecastsSo 249 = .ok (.iconst (-1), 1) := by decide +kernel
theorem dL_areForecastsSo_250 : decode cL_areForecastsSo 250 = .ok (.if_icmp .ne 21, 3) := by decide +kernel
theorem dL_areForecastsSo_253 : decode cL_areForecastsSo 253 = .ok (.aload_n 0, 1) := by decide +kernel
theorem dL_areForecastsSo_254 : decode cL_areForecastsSo 254 = .ok (.invokevirtual 70, 3) := by decide +kernel
theorem dL_areForecastsSo_257 : decode cL_areForecastsSo 257 = .ok (.ifCond .ne 14, 3) := by decide +kernel
theorem dL_areForecastsSo_260 : decode cL_areForecastsSo 260 = .ok (.iload 6, 2) := by decide +kernel
theorem dL_areForecastsSo_262 : decode cL_areForecastsSo 262 = .ok (.bipush 61, 2) := by decide +kernel
theorem dL_areForecastsSo_264 : decode cL_areForecastsSo 264 = .ok (.if_icmp .ne 7, 3) := by decide +kernel
theorem dL_areForecastsSo_267 : decode cL_areForecastsSo 267 = .ok (.iconst 1, 1) := by decide +kernel
theorem dL_areForecastsSo_268 : decode cL_areForecastsSo 268 = .ok (.goto 4, 3) := by decide +kernel
theorem dL_areForecastsSo_271 : decode cL_areForecastsSo 271 = .ok (.iconst 0, 1) := by decide +kernel
theorem dL_areForecastsSo_272 : decode cL_areForecastsSo 272 = .ok (.istore 5, 2) := by decide +kernel
theorem dL_areForecastsSo_274 : decode cL_areForecastsSo 274 = .ok (.aload_n 0, 1) := by decide +kernel
theorem dL_areForecastsSo_275 : decode cL_areForecastsSo 275 = .ok (.invokevirtual 86, 3) := by decide +kernel
theorem dL_areForecastsSo_278 : decode cL_areForecastsSo 278 = .ok (.istore 7, 2) := by decide +kernel
theorem dL_areForecastsSo_280 : decode cL_areForecastsSo 280 = .ok (.aload_n 0, 1) := by decide +kernel
theorem dL_areForecastsSo_281 : decode cL_areForecastsSo 281 = .ok (.invokevirtual 86, 3) := by decide +kernel
theorem dL_areForecastsSo_284 : decode cL_areForecastsSo 284 = .ok (.istore 7, 2) := by decide +kernel
theorem dL_areForecastsSo_286 : decode cL_areForecastsSo 286 = .ok (.iload 5, 2) := by decide +kernel
theorem dL_areForecastsSo_288 : decode cL_areForecastsSo 288 = .ok (.ifCond .eq 21, 3) := by decide +kernel
theorem dL_areForecastsSo_291 : decode cL_areForecastsSo 291 = .ok (.iload 7, 2) := by decide +kernel
theorem dL_areForecastsSo_293 : decode cL_areForecastsSo 293 = .ok (.ifCond .lt 16, 3) := by decide +kernel
theorem dL_areForecastsSo_296 : decode cL_areForecastsSo 296 = .ok (.aload_n 0, 1) := by decide +kernel
theorem dL_areForecastsSo_297 : decode cL_areForecastsSo 297 = .ok (.invokevirtual 83, 3) := by decide +kernel
theorem dL_areForecastsSo_300 : decode cL_areForecastsSo 300 = .ok (.iload 4, 2) := by decide +kernel
theorem dL_areForecastsSo_302 : decode cL_areForecastsSo 302 = .ok (.if_icmp .ne 7, 3) := by decide +kernel
theorem dL_areForecastsSo_305 : decode cL_areForecastsSo 305 = .ok (.iconst 1, 1) := by decide +kernel
theorem dL_areForecastsSo_306 : decode cL_areForecastsSo 306 = .ok (.goto 4, 3) := by decide +kernel
theorem dL_areForecastsSo_309 : decode cL_areForecastsSo 309 = .ok (.iconst 0, 1) := by decide +kernel
theorem dL_areForecastsSo_310 : decode cL_areForecastsSo 310 = .ok (.istore 5, 2) := by decide +kernel
theorem dL_areForecastsSo_312 : decode cL_areForecastsSo 312 = .ok (.iconst 0, 1) := by decide +kernel
theorem dL_areForecastsSo_313 : decode cL_areForecastsSo 313 = .ok (.istore 6, 2) := by decide +kernel
theorem dL_areForecastsSo_315 : decode cL_areForecastsSo 315 = .ok (.iconst 0, 1) := by decide +kernel
theorem dL_areForecastsSo_316 : decode cL_areForecastsSo 316 = .ok (.istore 7, 2) := by decide +kernel
theorem dL_areForecastsSo_318 : decode cL_areForecastsSo 318 = .ok (.iload 7, 2) := by decide +kernel
theorem dL_areForecastsSo_320 : decode cL_areForecastsSo 320 = .ok (.iconst 3, 1) := by decide +kernel
theorem dL_areForecastsSo_321 : decode cL_areForecastsSo 321 = .ok (.if_icmp .ge 74, 3) := by decide +kernel
theorem dL_areForecastsSo_324 : decode cL_areForecastsSo 324 = .ok (.aload_n 0, 1) := by decide +kernel
theorem dL_areForecastsSo_325 : decode cL_areForecastsSo 325 = .ok (.iload_n 1, 1) := by decide +kernel
theorem dL_areForecastsSo_326 : decode cL_areForecastsSo 326 = .ok (.iconst 0, 1) := by decide +kernel
theorem dL_areForecastsSo_327 : decode cL_areForecastsSo 327 = .ok (.iconst 0, 1) := by decide +kernel
theorem dL_areForecastsSo_328 : decode cL_areForecastsSo 328 = .ok (.bipush 10, 2) := by decide +kernel
theorem dL_areForecastsSo_330 : decode cL_areForecastsSo 330 = .ok (.invokevirtual 20, 3) := by decide +kernel
theorem dL_areForecastsSo_333 : decode cL_areForecastsSo 333 = .ok (.istore 8, 2) := by decide +kernel
theorem dL_areForecastsSo_335 : decode cL_areForecastsSo 335 = .ok (.iload 5, 2) := by decide +kernel
theorem dL_areForecastsSo_337 : decode cL_areForecastsSo 337 = .ok (.ifCond .eq 45, 3) := by decide +kernel
theorem dL_areForecastsSo_340 : decode cL_areForecastsSo 340 = .ok (.iload 7, 2) := by decide +kernel
theorem dL_areForecastsSo_342 : decode cL_areForecastsSo 342 = .ok (.iload_n 3, 1) := by decide +kernel
theorem dL_areForecastsSo_343 : decode cL_areForecastsSo 343 = .ok (.if_icmp .le 7, 3) := by decide +kernel
theorem dL_areForecastsSo_346 : decode cL_areForecastsSo 346 = .ok (.iload_n 3, 1) := by decide +kernel
theorem dL_areForecastsSo_347 : decode cL_areForecastsSo 347 = .ok (.ifCond .ge 31, 3) := by decide +kernel
theorem dL_areForecastsSo_350 : decode cL_areForecastsSo 350 = .ok (.iload 8, 2) := by decide +kernel
theorem dL_areForecastsSo_352 : decode cL_areForecastsSo 352 = .ok (.ifCond .le 7, 3) := by decide +kernel
theorem dL_areForecastsSo_355 : decode cL_areForecastsSo 355 = .ok (.iconst 1, 1) := by decide +kernel
theorem dL_areForecastsSo_356 : decode cL_areForecastsSo 356 = .ok (.goto 4, 3) := by decide +kernel
theorem dL_areForecastsSo_359 : decode cL_areForecastsSo 359 = .ok (.iconst 0, 1) := by decide +kernel
theorem dL_areForecastsSo_360 : decode cL_areForecastsSo 360 = .ok (.iload_n 3, 1) := by decide +kernel
theorem dL_areForecastsSo_361 : decode cL_areForecastsSo 361 = .ok (.ifCond .lt 9, 3) := by decide +kernel
theorem dL_areForecastsSo_364 : decode cL_areForecastsSo 364 = .ok (.iload 7, 2) := by decide +kernel
theorem dL_areForecastsSo_366 : decode cL_areForecastsSo 366 = .ok (.iload_n 3, 1) := by decide +kernel
theorem dL_areForecastsSo_367 : decode cL_areForecastsSo 367 = .ok (.if_icmp .ge 7, 3) := by decide +kernel
theorem dL_areForecastsSo_370 : decode cL_areForecastsSo 370 = .ok (.iconst 1, 1) := by decide +kernel
theorem dL_areForecastsSo_371 : decode cL_areForecastsSo 371 = .ok (.goto 4, 3) := by decide +kernel
theorem dL_areForecastsSo_374 : decode cL_areForecastsSo 374 = .ok (.iconst 0, 1) := by decide +kernel
theorem dL_areForecastsSo_375 : decode cL_areForecastsSo 375 = .ok (.if_icmp .ne 7, 3) := by decide +kernel
theorem dL_areForecastsSo_378 : decode cL_areForecastsSo 378 = .ok (.iconst 1, 1) := by decide +kernel
theorem dL_areForecastsSo_379 : decode cL_areForecastsSo 379 = .ok (.goto 4, 3) := by decide +kernel
theorem dL_areForecastsSo_382 : decode cL_areForecastsSo 382 = .ok (.iconst 0, 1) := by decide +kernel
theorem dL_areForecastsSo_383 : decode cL_areForecastsSo 383 = .ok (.istore 5, 2) := by decide +kernel
theorem dL_areForecastsSo_385 : decode cL_areForecastsSo 385 = .ok (.iload 7, 2) := by decide +kernel
theorem dL_areForecastsSo_387 : decode cL_areForecastsSo 387 = .ok (.istore 6, 2) := by decide +kernel
theorem dL_areForecastsSo_389 : decode cL_areForecastsSo 389 = .ok (.iinc 7 1, 3) := by decide +kernel
theorem dL_areForecastsSo_392 : decode cL_areForecastsSo 392 = .ok (.goto (-74), 3) := by decide +kernel
theorem dL_areForecastsSo_395 : decode cL_areForecastsSo 395 = .ok (.iconst 0, 1) := by decide +kernel
theorem dL_areForecastsSo_396 : decode cL_areForecastsSo 396 = .ok (.istore 7, 2) := by decide +kernel
theorem dL_areForecastsSo_398 : decode cL_areForecastsSo 398 = .ok (.iload 7, 2) := by decide +kernel
theorem dL_areForecastsSo_400 : decode cL_areForecastsSo 400 = .ok (.iconst 3, 1) := by decide +kernel
theorem dL_areForecastsSo_401 : decode cL_areForecastsSo 401 = .ok (.if_icmp .ge 15, 3) := by decide +kernel
theorem dL_areForecastsSo_404 : decode cL_areForecastsSo 404 = .ok (.aload_n 0, 1) := by decide +kernel
theorem dL_areForecastsSo_405 : decode cL_areForecastsSo 405 = .ok (.invokevirtual 86, 3) := by decide +kernel
theorem dL_areForecastsSo_408 : decode cL_areForecastsSo 408 = .ok (.istore 6, 2) := by decide +kernel
theorem dL_areForecastsSo_410 : decode cL_areForecastsSo 410 = .ok (.iinc 7 1, 3) := by decide +kernel
theorem dL_areForecastsSo_413 : decode cL_areForecastsSo 413 = .ok (.goto (-15), 3) := by decide +kernel
theorem dL_areForecastsSo_416 : decode cL_areForecastsSo 416 = .ok (.iload 5, 2) := by decide +kernel
theorem dL_areForecastsSo_418 : decode cL_areForecastsSo 418 = .ok (.ifCond .eq 12, 3) := by decide +kernel
theorem dL_areForecastsSo_421 : decode cL_areForecastsSo 421 = .ok (.iload 6, 2) := by decide +kernel
theorem dL_areForecastsSo_423 : decode cL_areForecastsSo 423 = .ok (.ifCond .lt 7, 3) := by decide +kernel
theorem dL_areForecastsSo_426 : decode cL_areForecastsSo 426 = .ok (.iconst 1, 1) := by decide +kernel
theorem dL_areForecastsSo_427 : decode cL_areForecastsSo 427 = .ok (.goto 4, 3) := by decide +kernel
theorem dL_areForecastsSo_430 : decode cL_areForecastsSo 430 = .ok (.iconst 0, 1) := by decide +kernel
theorem dL_areForecastsSo_431 : decode cL_areForecastsSo 431 = .ok (.ireturn, 1) := by decide +kernel
theorem dL_areBitsSo_0 : decode cL_areBitsSo 0 = .ok (.iconst 0, 1) := by decide +kernel
theorem dL_areBitsSo_1 : decode cL_areBitsSo 1 = .ok (.istore 4, 2) := by decide +kernel
theorem dL_areBitsSo_3 : decode cL_areBitsSo 3 = .ok (.iconst 0, 1) := by decide +kernel
theorem dL_areBitsSo_4 : decode cL_areBitsSo 4 = .ok (.istore 5, 2) := by decide +kernel
theorem dL_areBitsSo_6 : decode cL_areBitsSo 6 = .ok (.iconst 0, 1) := by decide +kernel
theorem dL_areBitsSo_7 : decode cL_areBitsSo 7 = .ok (.istore 6, 2) := by decide +kernel
theorem dL_areBitsSo_9 : decode cL_areBitsSo 9 = .ok (.iload 6, 2) := by decide +kernel
theorem dL_areBitsSo_11 : decode cL_areBitsSo 11 = .ok (.bipush 9, 2) := by decide +kernel
theorem dL_areBitsSo_13 : decode cL_areBitsSo 13 = .ok (.if_icmp .ge 39, 3) := by decide +kernel
theorem dL_areBitsSo_16 : decode cL_areBitsSo 16 = .ok (.iload 4, 2) := by decide +kernel
theorem dL_areBitsSo_18 : decode cL_areBitsSo 18 = .ok (.aload_n 0, 1) := by decide +kernel
theorem dL_areBitsSo_19 : decode cL_areBitsSo 19 = .ok (.iload_n 1, 1) := by decide +kernel
theorem dL_areBitsSo_20 : decode cL_areBitsSo 20 = .ok (.iload_n 2, 1) := by decide +kernel
theorem dL_areBitsSo_21 : decode cL_areBitsSo 21 = .ok (.iload_n 3, 1) := by decide +kernel
theorem dL_areBitsSo_22 : decode cL_areBitsSo 22 = .ok (.iload 6, 2) := by decide +kernel
theorem dL_areBitsSo_24 : decode cL_areBitsSo 24 = .ok (.invokevirtual 95, 3) := by decide +kernel
theorem dL_areBitsSo_27 : decode cL_areBitsSo 27 = .ok (.iadd, 1) := by decide +kernel
theorem dL_areBitsSo_28 : decode cL_areBitsSo 28 = .ok (.istore 4, 2) := by decide +kernel
theorem dL_areBitsSo_30 : decode cL_areBitsSo 30 = .ok (.iconst 2, 1) := by decide +kernel
theorem dL_areBitsSo_31 : decode cL_areBitsSo 31 = .ok (.iload 5, 2) := by decide +kernel
theorem dL_areBitsSo_33 : decode cL_areBitsSo 33 = .ok (.imul, 1) := by decide +kernel
theorem dL_areBitsSo_34 : decode cL_areBitsSo 34 = .ok (.aload_n 0, 1) := by decide +kernel
theorem dL_areBitsSo_35 : decode cL_areBitsSo 35 = .ok (.iload_n 1, 1) := by decide +kernel
theorem dL_areBitsSo_36 : decode cL_areBitsSo 36 = .ok (.iload_n 2, 1) := by decide +kernel
theorem dL_areBitsSo_37 : decode cL_areBitsSo 37 = .ok (.iload_n 3, 1) := by decide +kernel
theorem dL_areBitsSo_38 : decode cL_areBitsSo 38 = .ok (.iload 6, 2) := by decide +kernel
theorem dL_areBitsSo_40 : decode cL_areBitsSo 40 = .ok (.invokevirtual 95, 3) := by decide +kernel
theorem dL_areBitsSo_43 : decode cL_areBitsSo 43 = .ok (.iadd, 1) := by decide +kernel
theorem dL_areBitsSo_44 : decode cL_areBitsSo 44 = .ok (.istore 5, 2) := by decide +kernel
theorem dL_areBitsSo_46 : decode cL_areBitsSo 46 = .ok (.iinc 6 1, 3) := by decide +kernel
theorem dL_areBitsSo_49 : decode cL_areBitsSo 49 = .ok (.goto (-40), 3) := by decide +kernel
theorem dL_areBitsSo_52 : decode cL_areBitsSo 52 = .ok (.iload 4, 2) := by decide +kernel
theorem dL_areBitsSo_54 : decode cL_areBitsSo 54 = .ok (.iconst 2, 1) := by decide +kernel
theorem dL_areBitsSo_55 : decode cL_areBitsSo 55 = .ok (.irem, 1) := by decide +kernel
theorem dL_areBitsSo_56 : decode cL_areBitsSo 56 = .ok (.ifCond .ne 24, 3) := by decide +kernel
theorem dL_areBitsSo_59 : decode cL_areBitsSo 59 = .ok (.iload 5, 2) := by decide +kernel
theorem dL_areBitsSo_61 : decode cL_areBitsSo 61 = .ok (.iconst 2, 1) := by decide +kernel
theorem dL_areBitsSo_62 : decode cL_areBitsSo 62 = .ok (.idiv, 1) := by decide +kernel
theorem dL_areBitsSo_63 : decode cL_areBitsSo 63 = .ok (.bipush 32, 2) := by decide +kernel
theorem dL_areBitsSo_65 : decode cL_areBitsSo 65 = .ok (.iload_n 1, 1) := by decide +kernel
theorem dL_areBitsSo_66 : decode cL_areBitsSo 66 = .ok (.imul, 1) := by decide +kernel
theorem dL_areBitsSo_67 : decode cL_areBitsSo 67 = .ok (.iconst 2, 1) := by decide +kernel
theorem dL_areBitsSo_68 : decode cL_areBitsSo 68 = .ok (.iload_n 2, 1) := by decide +kernel
theorem dL_areBitsSo_69 : decode cL_areBitsSo 69 = .ok (.imul, 1) := by decide +kernel
theorem dL_areBitsSo_70 : decode cL_areBitsSo 70 = .ok (.iadd, 1) := by decide +kernel
theorem dL_areBitsSo_71 : decode cL_areBitsSo 71 = .ok (.iload_n 3, 1) := by decide +kernel
theorem dL_areBitsSo_72 : decode cL_areBitsSo 72 = .ok (.iadd, 1) := by decide +kernel
theorem dL_areBitsSo_73 : decode cL_areBitsSo 73 = .ok (.if_icmp .ne 7, 3) := by decide +kernel
theorem dL_areBitsSo_76 : decode cL_areBitsSo 76 = .ok (.iconst 1, 1) := by decide +kernel
theorem dL_areBitsSo_77 : decode cL_areBitsSo 77 = .ok (.goto 4, 3) := by decide +kernel
theorem dL_areBitsSo_80 : decode cL_areBitsSo 80 = .ok (.iconst 0, 1) := by decide +kernel
theorem dL_areBitsSo_81 : decode cL_areBitsSo 81 = .ok (.ireturn, 1) := by decide +kernel
theorem dL_law_0 : decode cL_law 0 = .ok (.new 15, 3) := by decide +kernel
theorem dL_law_3 : decode cL_law 3 = .ok (.dup, 1) := by decide +kernel
theorem dL_law_4 : decode cL_law 4 = .ok (.invokespecial 98, 3) := by decide +kernel
theorem dL_law_7 : decode cL_law 7 = .ok (.astore_n 1, 1) := by decide +kernel
theorem dL_law_8 : decode cL_law 8 = .ok (.iconst 0, 1) := by decide +kernel
theorem dL_law_9 : decode cL_law 9 = .ok (.istore_n 2, 1) := by decide +kernel
theorem dL_law_10 : decode cL_law 10 = .ok (.iconst 0, 1) := by decide +kernel
theorem dL_law_11 : decode cL_law 11 = .ok (.istore_n 3, 1) := by decide +kernel
theorem dL_law_12 : decode cL_law 12 = .ok (.iload_n 3, 1) := by decide +kernel
theorem dL_law_13 : decode cL_law 13 = .ok (.bipush 52, 2) := by decide +kernel
theorem dL_law_15 : decode cL_law 15 = .ok (.if_icmp .ge 215, 3) := by decide +kernel
theorem dL_law_18 : decode cL_law 18 = .ok (.aload_n 0, 1) := by decide +kernel
theorem dL_law_19 : decode cL_law 19 = .ok (.iload_n 3, 1) := by decide +kernel
theorem dL_law_20 : decode cL_law 20 = .ok (.invokestatic 99, 3) := by decide +kernel
theorem dL_law_23 : decode cL_law 23 = .ok (.istore 4, 2) := by decide +kernel
theorem dL_law_25 : decode cL_law 25 = .ok (.aload_n 1, 1) := by decide +kernel
theorem dL_law_26 : decode cL_law 26 = .ok (.iload 4, 2) := by decide +kernel
theorem dL_law_28 : decode cL_law 28 = .ok (.invokestatic 103, 3) := by decide +kernel
theorem dL_law_31 : decode cL_law 31 = .ok (.istore 5, 2) := by decide +kernel
theorem dL_law_33 : decode cL_law 33 = .ok (.iload 4, 2) := by decide +kernel
theorem dL_law_35 : decode cL_law 35 = .ok (.bipush 15, 2) := by decide +kernel
theorem dL_law_37 : decode cL_law 37 = .ok (.iand, 1) := by decide +kernel
theorem dL_law_38 : decode cL_law 38 = .ok (.bipush 13, 2) := by decide +kernel
theorem dL_law_40 : decode cL_law 40 = .ok (.if_icmp .ne 24, 3) := by decide +kernel
theorem dL_law_43 : decode cL_law 43 = .ok (.iload 4, 2) := by decide +kernel
theorem dL_law_45 : decode cL_law 45 = .ok (.iconst 4, 1) := by decide +kernel
theorem dL_law_46 : decode cL_law 46 = .ok (.ishr, 1) := by decide +kernel
theorem dL_law_47 : decode cL_law 47 = .ok (.iconst 3, 1) := by decide +kernel
theorem dL_law_48 : decode cL_law 48 = .ok (.iand, 1) := by decide +kernel
theorem dL_law_49 : decode cL_law 49 = .ok (.ifCond .ne 15, 3) := by decide +kernel
theorem dL_law_52 : decode cL_law 52 = .ok (.iload 4, 2) := by decide +kernel
theorem dL_law_54 : decode cL_law 54 = .ok (.bipush 6, 2) := by decide +kernel
theorem dL_law_56 : decode cL_law 56 = .ok (.ishr, 1) := by decide +kernel
theorem dL_law_57 : decode cL_law 57 = .ok (.iconst 3, 1) := by decide +kernel
theorem dL_law_58 : decode cL_law 58 = .ok (.invokestatic 8, 3) := by decide +kernel
theorem dL_law_61 : decode cL_law 61 = .ok (.goto 4, 3) := by decide +kernel
theorem dL_law_64 : decode cL_law 64 = .ok (.iload_n 2, 1) := by decide +kernel
theorem dL_law_65 : decode cL_law 65 = .ok (.istore_n 2, 1) := by decide +kernel
theorem dL_law_66 : decode cL_law 66 = .ok (.iload 5, 2) := by decide +kernel
theorem dL_law_68 : decode cL_law 68 = .ok (.iconst (-1), 1) := by decide +kernel
theorem dL_law_69 : decode cL_law 69 = .ok (.if_icmp .lt 73, 3) := by decide +kernel
theorem dL_law_72 : decode cL_law 72 = .ok (.aload_n 1, 1) := by decide +kernel
theorem dL_law_73 : decode cL_law 73 = .ok (.invokevirtual 107, 3) := by decide +kernel
theorem dL_law_76 : decode cL_law 76 = .ok (.dconst 0, 1) := by decide +kernel
theorem dL_law_77 : decode cL_law 77 = .ok (.dcmp .l, 1) := by decide +kernel
theorem dL_law_78 : decode cL_law 78 = .ok (.ifCond .lt 64, 3) := by decide +kernel
theorem dL_law_81 : decode cL_law 81 = .ok (.aload_n 1, 1) := by decide +kernel
theorem dL_law_82 : decode cL_law 82 = .ok (.invokevirtual 107, 3) := by decide +kernel
theorem dL_law_85 : decode cL_law 85 = .ok (.dconst 1, 1) := by decide +kernel
theorem dL_law_86 : decode cL_law 86 = .ok (.dcmp .g, 1) := by decide +kernel
theorem dL_law_87 : decode cL_law 87 = .ok (.ifCond .gt 55, 3) := by decide +kernel
theorem dL_law_90 : decode cL_law 90 = .ok (.aload_n 1, 1) := by decide +kernel
theorem dL_law_91 : decode cL_law 91 = .ok (.invokestatic 76, 3) := by decide +kernel
theorem dL_law_94 : decode cL_law 94 = .ok (.aload_n 1, 1) := by decide +kernel
theorem dL_law_95 : decode cL_law 95 = .ok (.invokevirtual 61, 3) := by decide +kernel
theorem dL_law_98 : decode cL_law 98 = .ok (.iadd, 1) := by decide +kernel
theorem dL_law_99 : decode cL_law 99 = .ok (.aload_n 1, 1) := by decide +kernel
theorem dL_law_100 : decode cL_law 100 = .ok (.invokevirtual 58, 3) := by decide +kernel
theorem dL_law_103 : decode cL_law 103 = .ok (.if_icmp .gt 39, 3) := by decide +kernel
theorem dL_law_106 : decode cL_law 106 = .ok (.aload_n 1, 1) := by decide +kernel
theorem dL_law_107 : decode cL_law 107 = .ok (.iload 4, 2) := by decide +kernel
theorem dL_law_109 : decode cL_law 109 = .ok (.iconst 3, 1) := by decide +kernel
theorem dL_law_110 : decode cL_law 110 = .ok (.ishr, 1) := by decide +kernel
theorem dL_law_111 : decode cL_law 111 = .ok (.bipush 8, 2) := by decide +kernel
theorem dL_law_113 : decode cL_law 113 = .ok (.invokestatic 8, 3) := by decide +kernel
theorem dL_law_116 : decode cL_law 116 = .ok (.iload 4, 2) := by decide +kernel
theorem dL_law_118 : decode cL_law 118 = .ok (.iconst 5, 1) := by decide +kernel
theorem dL_law_119 : decode cL_law 119 = .ok (.ishr, 1) := by decide +kernel
theorem dL_law_120 : decode cL_law 120 = .ok (.bipush 16, 2) := by decide +kernel
theorem dL_law_122 : decode cL_law 122 = .ok (.invokestatic 8, 3) := by decide +kernel
theorem dL_law_125 : decode cL_law 125 = .ok (.iload 4, 2) := by decide +kernel
theorem dL_law_127 : decode cL_law 127 = .ok (.bipush 9, 2) := by decide +kernel
theorem dL_law_129 : decode cL_law 129 = .ok (.ishr, 1) := by decide +kernel
theorem dL_law_130 : decode cL_law 130 = .ok (.iconst 1, 1) := by decide +kernel
theorem dL_law_131 : decode cL_law 131 = .ok (.iand, 1) := by decide +kernel
theorem dL_law_132 : decode cL_law 132 = .ok (.invokestatic 111, 3) := by decide +kernel
theorem dL_law_135 : decode cL_law 135 = .ok (.ifCond .eq 7, 3) := by decide +kernel
theorem dL_law_138 : decode cL_law 138 = .ok (.iconst 1, 1) := by decide +kernel
theorem dL_law_139 : decode cL_law 139 = .ok (.goto 4, 3) := by decide +kernel
theorem dL_law_142 : decode cL_law 142 = .ok (.iconst 0, 1) := by decide +kernel
theorem dL_law_143 : decode cL_law 143 = .ok (.istore 6, 2) := by decide +kernel
theorem dL_law_145 : decode cL_law 145 = .ok (.iload 6, 2) := by decide +kernel
theorem dL_law_147 : decode cL_law 147 = .ok (.ifCond .eq 75, 3) := by decide +kernel
theorem dL_law_150 : decode cL_law 150 = .ok (.aload_n 1, 1) := by decide +kernel
theorem dL_law_151 : decode cL_law 151 = .ok (.iload 4, 2) := by decide +kernel
theorem dL_law_153 : decode cL_law 153 = .ok (.bipush 11, 2) := by decide +kernel
theorem dL_law_155 : decode cL_law 155 = .ok (.ishr, 1) := by decide +kernel
theorem dL_law_156 : decode cL_law 156 = .ok (.iconst 3, 1) := by decide +kernel
theorem dL_law_157 : decode cL_law 157 = .ok (.iand, 1) := by decide +kernel
theorem dL_law_158 : decode cL_law 158 = .ok (.ifCond .ne 15, 3) := by decide +kernel
theorem dL_law_161 : decode cL_law 161 = .ok (.iload 4, 2) := by decide +kernel
theorem dL_law_163 : decode cL_law 163 = .ok (.iconst 4, 1) := by decide +kernel
theorem dL_law_164 : decode cL_law 164 = .ok (.ishr, 1) := by decide +kernel
theorem dL_law_165 : decode cL_law 165 = .ok (.bipush 8, 2) := by decide +kernel
theorem dL_law_167 : decode cL_law 167 = .ok (.invokestatic 8, 3) := by decide +kernel
theorem dL_law_170 : decode cL_law 170 = .ok (.goto 4, 3) := by decide +kernel
theorem dL_law_173 : decode cL_law 173 = .ok (.iload_n 2, 1) := by decide +kernel
theorem dL_law_174 : decode cL_law 174 = .ok (.iload 4, 2) := by decide +kernel
theorem dL_law_176 : decode cL_law 176 = .ok (.iconst 4, 1) := by decide +kernel
theorem dL_law_177 : decode cL_law 177 = .ok (.ishr, 1) := by decide +kernel
theorem dL_law_178 : decode cL_law 178 = .ok (.iconst 3, 1) := by decide +kernel
theorem dL_law_179 : decode cL_law 179 = .ok (.invokestatic 8, 3) := by decide +kernel
theorem dL_law_182 : decode cL_law 182 = .ok (.iload 4, 2) := by decide +kernel
theorem dL_law_184 : decode cL_law 184 = .ok (.bipush 7, 2) := by decide +kernel
theorem dL_law_186 : decode cL_law 186 = .ok (.ishr, 1) := by decide +kernel
theorem dL_law_187 : decode cL_law 187 = .ok (.iconst 1, 1) := by decide +kernel
theorem dL_law_188 : decode cL_law 188 = .ok (.iand, 1) := by decide +kernel
theorem dL_law_189 : decode cL_law 189 = .ok (.iconst 1, 1) := by decide +kernel
theorem dL_law_190 : decode cL_law 190 = .ok (.iload 4, 2) := by decide +kernel
theorem dL_law_192 : decode cL_law 192 = .ok (.bipush 8, 2) := by decide +kernel
theorem dL_law_194 : decode cL_law 194 = .ok (.ishr, 1) := by decide +kernel
theorem dL_law_195 : decode cL_law 195 = .ok (.bipush 10, 2) := by decide +kernel
theorem dL_law_197 : decode cL_law 197 = .ok (.invokestatic 8, 3) := by decide +kernel
theorem dL_law_200 : decode cL_law 200 = .ok (.iadd, 1) := by decide +kernel
theorem dL_law_201 : decode cL_law 201 = .ok (.invokestatic 115, 3) := by decide +kernel
theorem dL_law_204 : decode cL_law 204 = .ok (.ifCond .eq 18, 3) := by decide +kernel
theorem dL_law_207 : decode cL_law 207 = .ok (.iload_n 3, 1) := by decide +kernel
theorem dL_law_208 : decode cL_law 208 = .ok (.iconst 3, 1) := by decide +kernel
theorem dL_law_209 : decode cL_law 209 = .ok (.irem, 1) := by decide +kernel
theorem dL_law_210 : decode cL_law 210 = .ok (.iconst 2, 1) := by decide +kernel
theorem dL_law_211 : decode cL_law 211 = .ok (.if_icmp .ne 13, 3) := by decide +kernel
theorem dL_law_214 : decode cL_law 214 = .ok (.aload_n 1, 1) := by decide +kernel
theorem dL_law_215 : decode cL_law 215 = .ok (.iload_n 2, 1) := by decide +kernel
theorem dL_law_216 : decode cL_law 216 = .ok (.invokestatic 119, 3) := by decide +kernel
theorem dL_law_219 : decode cL_law 219 = .ok (.ifCond .ne 5, 3) := by decide +kernel
theorem dL_law_222 : decode cL_law 222 = .ok (.iconst 0, 1) := by decide +kernel
theorem dL_law_223 : decode cL_law 223 = .ok (.ireturn, 1) := by decide +kernel
theorem dL_law_224 : decode cL_law 224 = .ok (.iinc 3 1, 3) := by decide +kernel
theorem dL_law_227 : decode cL_law 227 = .ok (.goto (-215), 3) := by decide +kernel
theorem dL_law_230 : decode cL_law 230 = .ok (.iconst 1, 1) := by decide +kernel
theorem dL_law_231 : decode cL_law 231 = .ok (.ireturn, 1) := by decide +kernel
