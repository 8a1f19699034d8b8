theorem dL_cell_0 : decode cL_cell 0 = .ok (.iload_n 1, 1) := by decide +kernel
theorem dL_cell_1 : decode cL_cell 1 = .ok (.aload_n 0, 1) := by decide +kernel
theorem dL_cell_2 : decode cL_cell 2 = .ok (.arraylength, 1) := by decide +kernel
theorem dL_cell_3 : decode cL_cell 3 = .ok (.if_icmp .ge 9, 3) := by decide +kernel
theorem dL_cell_6 : decode cL_cell 6 = .ok (.aload_n 0, 1) := by decide +kernel
theorem dL_cell_7 : decode cL_cell 7 = .ok (.iload_n 1, 1) := by decide +kernel
theorem dL_cell_8 : decode cL_cell 8 = .ok (.iaload, 1) := by decide +kernel
theorem dL_cell_9 : decode cL_cell 9 = .ok (.goto 16, 3) := by decide +kernel
theorem dL_cell_12 : decode cL_cell 12 = .ok (.sipush 7919, 3) := by decide +kernel
theorem dL_cell_15 : decode cL_cell 15 = .ok (.iload_n 1, 1) := by decide +kernel
theorem dL_cell_16 : decode cL_cell 16 = .ok (.bipush 11, 2) := by decide +kernel
theorem dL_cell_18 : decode cL_cell 18 = .ok (.iadd, 1) := by decide +kernel
theorem dL_cell_19 : decode cL_cell 19 = .ok (.imul, 1) := by decide +kernel
theorem dL_cell_20 : decode cL_cell 20 = .ok (.iload_n 1, 1) := by decide +kernel
theorem dL_cell_21 : decode cL_cell 21 = .ok (.bipush 37, 2) := by decide +kernel
theorem dL_cell_23 : decode cL_cell 23 = .ok (.iadd, 1) := by decide +kernel
theorem dL_cell_24 : decode cL_cell 24 = .ok (.imul, 1) := by decide +kernel
theorem dL_cell_25 : decode cL_cell 25 = .ok (.ireturn, 1) := by decide +kernel
theorem dL_low_0 : decode cL_low 0 = .ok (.iload_n 0, 1) := by decide +kernel
theorem dL_low_1 : decode cL_low 1 = .ok (.ldc 7, 2) := by decide +kernel
theorem dL_low_3 : decode cL_low 3 = .ok (.iand, 1) := by decide +kernel
theorem dL_low_4 : decode cL_low 4 = .ok (.iload_n 1, 1) := by decide +kernel
theorem dL_low_5 : decode cL_low 5 = .ok (.irem, 1) := by decide +kernel
theorem dL_low_6 : decode cL_low 6 = .ok (.ireturn, 1) := by decide +kernel
theorem dL_all_0 : decode cL_all 0 = .ok (.ldc2_w 8, 3) := by decide +kernel
theorem dL_all_3 : decode cL_all 3 = .ok (.lstore_n 1, 1) := by decide +kernel
theorem dL_all_4 : decode cL_all 4 = .ok (.iconst 0, 1) := by decide +kernel
theorem dL_all_5 : decode cL_all 5 = .ok (.istore_n 3, 1) := by decide +kernel
theorem dL_all_6 : decode cL_all 6 = .ok (.iload_n 3, 1) := by decide +kernel
theorem dL_all_7 : decode cL_all 7 = .ok (.bipush 8, 2) := by decide +kernel
theorem dL_all_9 : decode cL_all 9 = .ok (.if_icmp .ge 27, 3) := by decide +kernel
theorem dL_all_12 : decode cL_all 12 = .ok (.ldc2_w 8, 3) := by decide +kernel
theorem dL_all_15 : decode cL_all 15 = .ok (.lload_n 1, 1) := by decide +kernel
theorem dL_all_16 : decode cL_all 16 = .ok (.lmul, 1) := by decide +kernel
theorem dL_all_17 : decode cL_all 17 = .ok (.aload_n 0, 1) := by decide +kernel
theorem dL_all_18 : decode cL_all 18 = .ok (.iload_n 3, 1) := by decide +kernel
theorem dL_all_19 : decode cL_all 19 = .ok (.iconst 4, 1) := by decide +kernel
theorem dL_all_20 : decode cL_all 20 = .ok (.idiv, 1) := by decide +kernel
theorem dL_all_21 : decode cL_all 21 = .ok (.iload_n 3, 1) := by decide +kernel
theorem dL_all_22 : decode cL_all 22 = .ok (.iconst 4, 1) := by decide +kernel
theorem dL_all_23 : decode cL_all 23 = .ok (.irem, 1) := by decide +kernel
theorem dL_all_24 : decode cL_all 24 = .ok (.invokevirtual 10, 3) := by decide +kernel
theorem dL_all_27 : decode cL_all 27 = .ok (.i2l, 1) := by decide +kernel
theorem dL_all_28 : decode cL_all 28 = .ok (.ladd, 1) := by decide +kernel
theorem dL_all_29 : decode cL_all 29 = .ok (.lstore_n 1, 1) := by decide +kernel
theorem dL_all_30 : decode cL_all 30 = .ok (.iinc 3 1, 3) := by decide +kernel
theorem dL_all_33 : decode cL_all 33 = .ok (.goto (-27), 3) := by decide +kernel
theorem dL_all_36 : decode cL_all 36 = .ok (.iconst 0, 1) := by decide +kernel
theorem dL_all_37 : decode cL_all 37 = .ok (.istore_n 3, 1) := by decide +kernel
theorem dL_all_38 : decode cL_all 38 = .ok (.iload_n 3, 1) := by decide +kernel
theorem dL_all_39 : decode cL_all 39 = .ok (.iconst 2, 1) := by decide +kernel
theorem dL_all_40 : decode cL_all 40 = .ok (.if_icmp .ge 54, 3) := by decide +kernel
theorem dL_all_43 : decode cL_all 43 = .ok (.ldc2_w 8, 3) := by decide +kernel
theorem dL_all_46 : decode cL_all 46 = .ok (.lload_n 1, 1) := by decide +kernel
theorem dL_all_47 : decode cL_all 47 = .ok (.lmul, 1) := by decide +kernel
theorem dL_all_48 : decode cL_all 48 = .ok (.ldc2_w 16, 3) := by decide +kernel
theorem dL_all_51 : decode cL_all 51 = .ok (.aload_n 0, 1) := by decide +kernel
theorem dL_all_52 : decode cL_all 52 = .ok (.iload_n 3, 1) := by decide +kernel
theorem dL_all_53 : decode cL_all 53 = .ok (.invokevirtual 18, 3) := by decide +kernel
theorem dL_all_56 : decode cL_all 56 = .ok (.i2l, 1) := by decide +kernel
theorem dL_all_57 : decode cL_all 57 = .ok (.lmul, 1) := by decide +kernel
theorem dL_all_58 : decode cL_all 58 = .ok (.ladd, 1) := by decide +kernel
theorem dL_all_59 : decode cL_all 59 = .ok (.aload_n 0, 1) := by decide +kernel
theorem dL_all_60 : decode cL_all 60 = .ok (.iload_n 3, 1) := by decide +kernel
theorem dL_all_61 : decode cL_all 61 = .ok (.invokevirtual 22, 3) := by decide +kernel
theorem dL_all_64 : decode cL_all 64 = .ok (.i2l, 1) := by decide +kernel
theorem dL_all_65 : decode cL_all 65 = .ok (.ladd, 1) := by decide +kernel
theorem dL_all_66 : decode cL_all 66 = .ok (.ldc2_w 25, 3) := by decide +kernel
theorem dL_all_69 : decode cL_all 69 = .ok (.aload_n 0, 1) := by decide +kernel
theorem dL_all_70 : decode cL_all 70 = .ok (.iload_n 3, 1) := by decide +kernel
theorem dL_all_71 : decode cL_all 71 = .ok (.invokevirtual 27, 3) := by decide +kernel
theorem dL_all_74 : decode cL_all 74 = .ok (.i2l, 1) := by decide +kernel
theorem dL_all_75 : decode cL_all 75 = .ok (.lmul, 1) := by decide +kernel
theorem dL_all_76 : decode cL_all 76 = .ok (.ladd, 1) := by decide +kernel
theorem dL_all_77 : decode cL_all 77 = .ok (.ldc2_w 30, 3) := by decide +kernel
theorem dL_all_80 : decode cL_all 80 = .ok (.aload_n 0, 1) := by decide +kernel
theorem dL_all_81 : decode cL_all 81 = .ok (.iload_n 3, 1) := by decide +kernel
theorem dL_all_82 : decode cL_all 82 = .ok (.invokevirtual 32, 3) := by decide +kernel
theorem dL_all_85 : decode cL_all 85 = .ok (.lmul, 1) := by decide +kernel
theorem dL_all_86 : decode cL_all 86 = .ok (.ladd, 1) := by decide +kernel
theorem dL_all_87 : decode cL_all 87 = .ok (.lstore_n 1, 1) := by decide +kernel
theorem dL_all_88 : decode cL_all 88 = .ok (.iinc 3 1, 3) := by decide +kernel
theorem dL_all_91 : decode cL_all 91 = .ok (.goto (-53), 3) := by decide +kernel
theorem dL_all_94 : decode cL_all 94 = .ok (.iconst 0, 1) := by decide +kernel
theorem dL_all_95 : decode cL_all 95 = .ok (.istore_n 3, 1) := by decide +kernel
theorem dL_all_96 : decode cL_all 96 = .ok (.iload_n 3, 1) := by decide +kernel
theorem dL_all_97 : decode cL_all 97 = .ok (.aload_n 0, 1) := by decide +kernel
theorem dL_all_98 : decode cL_all 98 = .ok (.invokevirtual 36, 3) := by decide +kernel
theorem dL_all_101 : decode cL_all 101 = .ok (.if_icmp .ge 165, 3) := by decide +kernel
theorem dL_all_104 : decode cL_all 104 = .ok (.ldc2_w 8, 3) := by decide +kernel
theorem dL_all_107 : decode cL_all 107 = .ok (.lload_n 1, 1) := by decide +kernel
theorem dL_all_108 : decode cL_all 108 = .ok (.lmul, 1) := by decide +kernel
theorem dL_all_109 : decode cL_all 109 = .ok (.aload_n 0, 1) := by decide +kernel
theorem dL_all_110 : decode cL_all 110 = .ok (.iload_n 3, 1) := by decide +kernel
theorem dL_all_111 : decode cL_all 111 = .ok (.invokevirtual 40, 3) := by decide +kernel
theorem dL_all_114 : decode cL_all 114 = .ok (.i2l, 1) := by decide +kernel
theorem dL_all_115 : decode cL_all 115 = .ok (.ladd, 1) := by decide +kernel
theorem dL_all_116 : decode cL_all 116 = .ok (.ldc2_w 43, 3) := by decide +kernel
theorem dL_all_119 : decode cL_all 119 = .ok (.aload_n 0, 1) := by decide +kernel
theorem dL_all_120 : decode cL_all 120 = .ok (.iload_n 3, 1) := by decide +kernel
theorem dL_all_121 : decode cL_all 121 = .ok (.invokevirtual 45, 3) := by decide +kernel
theorem dL_all_124 : decode cL_all 124 = .ok (.i2l, 1) := by decide +kernel
theorem dL_all_125 : decode cL_all 125 = .ok (.lmul, 1) := by decide +kernel
theorem dL_all_126 : decode cL_all 126 = .ok (.ladd, 1) := by decide +kernel
theorem dL_all_127 : decode cL_all 127 = .ok (.ldc2_w 25, 3) := by decide +kernel
theorem dL_all_130 : decode cL_all 130 = .ok (.aload_n 0, 1) := by decide +kernel
theorem dL_all_131 : decode cL_all 131 = .ok (.iload_n 3, 1) := by decide +kernel
theorem dL_all_132 : decode cL_all 132 = .ok (.invokevirtual 48, 3) := by decide +kernel
theorem dL_all_135 : decode cL_all 135 = .ok (.lmul, 1) := by decide +kernel
theorem dL_all_136 : decode cL_all 136 = .ok (.ladd, 1) := by decide +kernel
theorem dL_all_137 : decode cL_all 137 = .ok (.ldc2_w 30, 3) := by decide +kernel
theorem dL_all_140 : decode cL_all 140 = .ok (.aload_n 0, 1) := by decide +kernel
theorem dL_all_141 : decode cL_all 141 = .ok (.iload_n 3, 1) := by decide +kernel
theorem dL_all_142 : decode cL_all 142 = .ok (.invokevirtual 51, 3) := by decide +kernel
theorem dL_all_145 : decode cL_all 145 = .ok (.i2l, 1) := by decide +kernel
theorem dL_all_146 : decode cL_all 146 = .ok (.lmul, 1) := by decide +kernel
theorem dL_all_147 : decode cL_all 147 = .ok (.ladd, 1) := by decide +kernel
theorem dL_all_148 : decode cL_all 148 = .ok (.ldc2_w 16, 3) := by decide +kernel
theorem dL_all_151 : decode cL_all 151 = .ok (.aload_n 0, 1) := by decide +kernel
theorem dL_all_152 : decode cL_all 152 = .ok (.iload_n 3, 1) := by decide +kernel
theorem dL_all_153 : decode cL_all 153 = .ok (.invokevirtual 54, 3) := by decide +kernel
theorem dL_all_156 : decode cL_all 156 = .ok (.i2l, 1) := by decide +kernel
theorem dL_all_157 : decode cL_all 157 = .ok (.lmul, 1) := by decide +kernel
theorem dL_all_158 : decode cL_all 158 = .ok (.ladd, 1) := by decide +kernel
theorem dL_all_159 : decode cL_all 159 = .ok (.lstore_n 1, 1) := by decide +kernel
theorem dL_all_160 : decode cL_all 160 = .ok (.iconst 0, 1) := by decide +kernel
theorem dL_all_161 : decode cL_all 161 = .ok (.istore 4, 2) := by decide +kernel
theorem dL_all_163 : decode cL_all 163 = .ok (.iload 4, 2) := by decide +kernel
theorem dL_all_165 : decode cL_all 165 = .ok (.bipush 42, 2) := by decide +kernel
theorem dL_all_167 : decode cL_all 167 = .ok (.if_icmp .ge 32, 3) := by decide +kernel
theorem dL_all_170 : decode cL_all 170 = .ok (.ldc2_w 8, 3) := by decide +kernel
theorem dL_all_173 : decode cL_all 173 = .ok (.lload_n 1, 1) := by decide +kernel
theorem dL_all_174 : decode cL_all 174 = .ok (.lmul, 1) := by decide +kernel
theorem dL_all_175 : decode cL_all 175 = .ok (.aload_n 0, 1) := by decide +kernel
theorem dL_all_176 : decode cL_all 176 = .ok (.iload_n 3, 1) := by decide +kernel
theorem dL_all_177 : decode cL_all 177 = .ok (.iload 4, 2) := by decide +kernel
theorem dL_all_179 : decode cL_all 179 = .ok (.bipush 21, 2) := by decide +kernel
theorem dL_all_181 : decode cL_all 181 = .ok (.idiv, 1) := by decide +kernel
theorem dL_all_182 : decode cL_all 182 = .ok (.iload 4, 2) := by decide +kernel
theorem dL_all_184 : decode cL_all 184 = .ok (.bipush 21, 2) := by decide +kernel
theorem dL_all_186 : decode cL_all 186 = .ok (.irem, 1) := by decide +kernel
theorem dL_all_187 : decode cL_all 187 = .ok (.invokevirtual 57, 3) := by decide +kernel
theorem dL_all_190 : decode cL_all 190 = .ok (.i2l, 1) := by decide +kernel
theorem dL_all_191 : decode cL_all 191 = .ok (.ladd, 1) := by decide +kernel
theorem dL_all_192 : decode cL_all 192 = .ok (.lstore_n 1, 1) := by decide +kernel
theorem dL_all_193 : decode cL_all 193 = .ok (.iinc 4 1, 3) := by decide +kernel
theorem dL_all_196 : decode cL_all 196 = .ok (.goto (-33), 3) := by decide +kernel
theorem dL_all_199 : decode cL_all 199 = .ok (.iconst 0, 1) := by decide +kernel
theorem dL_all_200 : decode cL_all 200 = .ok (.istore 4, 2) := by decide +kernel
theorem dL_all_202 : decode cL_all 202 = .ok (.iload 4, 2) := by decide +kernel
theorem dL_all_204 : decode cL_all 204 = .ok (.bipush 21, 2) := by decide +kernel
theorem dL_all_206 : decode cL_all 206 = .ok (.if_icmp .ge 24, 3) := by decide +kernel
theorem dL_all_209 : decode cL_all 209 = .ok (.ldc2_w 8, 3) := by decide +kernel
theorem dL_all_212 : decode cL_all 212 = .ok (.lload_n 1, 1) := by decide +kernel
theorem dL_all_213 : decode cL_all 213 = .ok (.lmul, 1) := by decide +kernel
theorem dL_all_214 : decode cL_all 214 = .ok (.aload_n 0, 1) := by decide +kernel
theorem dL_all_215 : decode cL_all 215 = .ok (.iload_n 3, 1) := by decide +kernel
theorem dL_all_216 : decode cL_all 216 = .ok (.iload 4, 2) := by decide +kernel
theorem dL_all_218 : decode cL_all 218 = .ok (.invokevirtual 61, 3) := by decide +kernel
theorem dL_all_221 : decode cL_all 221 = .ok (.i2l, 1) := by decide +kernel
theorem dL_all_222 : decode cL_all 222 = .ok (.ladd, 1) := by decide +kernel
theorem dL_all_223 : decode cL_all 223 = .ok (.lstore_n 1, 1) := by decide +kernel
theorem dL_all_224 : decode cL_all 224 = .ok (.iinc 4 1, 3) := by decide +kernel
theorem dL_all_227 : decode cL_all 227 = .ok (.goto (-25), 3) := by decide +kernel
theorem dL_all_230 : decode cL_all 230 = .ok (.iconst 0, 1) := by decide +kernel
theorem dL_all_231 : decode cL_all 231 = .ok (.istore 4, 2) := by decide +kernel
theorem dL_all_233 : decode cL_all 233 = .ok (.iload 4, 2) := by decide +kernel
theorem dL_all_235 : decode cL_all 235 = .ok (.iconst 4, 1) := by decide +kernel
theorem dL_all_236 : decode cL_all 236 = .ok (.if_icmp .ge 24, 3) := by decide +kernel
theorem dL_all_239 : decode cL_all 239 = .ok (.ldc2_w 8, 3) := by decide +kernel
theorem dL_all_242 : decode cL_all 242 = .ok (.lload_n 1, 1) := by decide +kernel
theorem dL_all_243 : decode cL_all 243 = .ok (.lmul, 1) := by decide +kernel
theorem dL_all_244 : decode cL_all 244 = .ok (.aload_n 0, 1) := by decide +kernel
theorem dL_all_245 : decode cL_all 245 = .ok (.iload_n 3, 1) := by decide +kernel
theorem dL_all_246 : decode cL_all 246 = .ok (.iload 4, 2) := by decide +kernel
theorem dL_all_248 : decode cL_all 248 = .ok (.invokevirtual 64, 3) := by decide +kernel
theorem dL_all_251 : decode cL_all 251 = .ok (.i2l, 1) := by decide +kernel
theorem dL_all_252 : decode cL_all 252 = .ok (.ladd, 1) := by decide +kernel
theorem dL_all_253 : decode cL_all 253 = .ok (.lstore_n 1, 1) := by decide +kernel
theorem dL_all_254 : decode cL_all 254 = .ok (.iinc 4 1, 3) := by decide +kernel
theorem dL_all_257 : decode cL_all 257 = .ok (.goto (-24), 3) := by decide +kernel
theorem dL_all_260 : decode cL_all 260 = .ok (.iinc 3 1, 3) := by decide +kernel
theorem dL_all_263 : decode cL_all 263 = .ok (.goto (-167), 3) := by decide +kernel
theorem dL_all_266 : decode cL_all 266 = .ok (.ldc2_w 8, 3) := by decide +kernel
theorem dL_all_269 : decode cL_all 269 = .ok (.lload_n 1, 1) := by decide +kernel
theorem dL_all_270 : decode cL_all 270 = .ok (.lmul, 1) := by decide +kernel
theorem dL_all_271 : decode cL_all 271 = .ok (.aload_n 0, 1) := by decide +kernel
theorem dL_all_272 : decode cL_all 272 = .ok (.invokevirtual 36, 3) := by decide +kernel
theorem dL_all_275 : decode cL_all 275 = .ok (.i2l, 1) := by decide +kernel
theorem dL_all_276 : decode cL_all 276 = .ok (.ladd, 1) := by decide +kernel
theorem dL_all_277 : decode cL_all 277 = .ok (.aload_n 0, 1) := by decide +kernel
theorem dL_all_278 : decode cL_all 278 = .ok (.invokevirtual 67, 3) := by decide +kernel
theorem dL_all_281 : decode cL_all 281 = .ok (.i2l, 1) := by decide +kernel
theorem dL_all_282 : decode cL_all 282 = .ok (.ladd, 1) := by decide +kernel
theorem dL_all_283 : decode cL_all 283 = .ok (.aload_n 0, 1) := by decide +kernel
theorem dL_all_284 : decode cL_all 284 = .ok (.invokevirtual 70, 3) := by decide +kernel
theorem dL_all_287 : decode cL_all 287 = .ok (.i2l, 1) := by decide +kernel
theorem dL_all_288 : decode cL_all 288 = .ok (.ladd, 1) := by decide +kernel
theorem dL_all_289 : decode cL_all 289 = .ok (.lreturn, 1) := by decide +kernel
theorem dL_isSound_0 : decode cL_isSound 0 = .ok (.iconst 0, 1) := by decide +kernel
theorem dL_isSound_1 : decode cL_isSound 1 = .ok (.istore_n 3, 1) := by decide +kernel
theorem dL_isSound_2 : decode cL_isSound 2 = .ok (.iconst 0, 1) := by decide +kernel
theorem dL_isSound_3 : decode cL_isSound 3 = .ok (.istore 4, 2) := by decide +kernel
theorem dL_isSound_5 : decode cL_isSound 5 = .ok (.iconst 0, 1) := by decide +kernel
theorem dL_isSound_6 : decode cL_isSound 6 = .ok (.istore 5, 2) := by decide +kernel
theorem dL_isSound_8 : decode cL_isSound 8 = .ok (.iconst 0, 1) := by decide +kernel
theorem dL_isSound_9 : decode cL_isSound 9 = .ok (.istore 6, 2) := by decide +kernel
theorem dL_isSound_11 : decode cL_isSound 11 = .ok (.iload 6, 2) := by decide +kernel
theorem dL_isSound_13 : decode cL_isSound 13 = .ok (.bipush 21, 2) := by decide +kernel
theorem dL_isSound_15 : decode cL_isSound 15 = .ok (.if_icmp .ge 98, 3) := by decide +kernel
theorem dL_isSound_18 : decode cL_isSound 18 = .ok (.aload_n 0, 1) := by decide +kernel
theorem dL_isSound_19 : decode cL_isSound 19 = .ok (.iload_n 1, 1) := by decide +kernel
theorem dL_isSound_20 : decode cL_isSound 20 = .ok (.iconst 0, 1) := by decide +kernel
theorem dL_isSound_21 : decode cL_isSound 21 = .ok (.iload 6, 2) := by decide +kernel
theorem dL_isSound_23 : decode cL_isSound 23 = .ok (.invokevirtual 57, 3) := by decide +kernel
theorem dL_isSound_26 : decode cL_isSound 26 = .ok (.aload_n 0, 1) := by decide +kernel
theorem dL_isSound_27 : decode cL_isSound 27 = .ok (.iload_n 1, 1) := by decide +kernel
theorem dL_isSound_28 : decode cL_isSound 28 = .ok (.iconst 1, 1) := by decide +kernel
theorem dL_isSound_29 : decode cL_isSound 29 = .ok (.iload 6, 2) := by decide +kernel
theorem dL_isSound_31 : decode cL_isSound 31 = .ok (.invokevirtual 57, 3) := by decide +kernel
theorem dL_isSound_34 : decode cL_isSound 34 = .ok (.isub, 1) := by decide +kernel
theorem dL_isSound_35 : decode cL_isSound 35 = .ok (.istore 7, 2) := by decide +kernel
theorem dL_isSound_37 : decode cL_isSound 37 = .ok (.iload_n 3, 1) := by decide +kernel
theorem dL_isSound_38 : decode cL_isSound 38 = .ok (.iload 6, 2) := by decide +kernel
theorem dL_isSound_40 : decode cL_isSound 40 = .ok (.ifCond .eq 10, 3) := by decide +kernel
theorem dL_isSound_43 : decode cL_isSound 43 = .ok (.iload 6, 2) := by decide +kernel
theorem dL_isSound_45 : decode cL_isSound 45 = .ok (.bipush 20, 2) := by decide +kernel
theorem dL_isSound_47 : decode cL_isSound 47 = .ok (.if_icmp .ne 8, 3) := by decide +kernel
theorem dL_isSound_50 : decode cL_isSound 50 = .ok (.iload 7, 2) := by decide +kernel
theorem dL_isSound_52 : decode cL_isSound 52 = .ok (.goto 7, 3) := by decide +kernel
theorem dL_isSound_55 : decode cL_isSound 55 = .ok (.iconst 2, 1) := by decide +kernel
theorem dL_isSound_56 : decode cL_isSound 56 = .ok (.iload 7, 2) := by decide +kernel
theorem dL_isSound_58 : decode cL_isSound 58 = .ok (.imul, 1) := by decide +kernel
theorem dL_isSound_59 : decode cL_isSound 59 = .ok (.iadd, 1) := by decide +kernel
theorem dL_isSound_60 : decode cL_isSound 60 = .ok (.istore_n 3, 1) := by decide +kernel
theorem dL_isSound_61 : decode cL_isSound 61 = .ok (.iload 4, 2) := by decide +kernel
theorem dL_isSound_63 : decode cL_isSound 63 = .ok (.iload 7, 2) := by decide +kernel
theorem dL_isSound_65 : decode cL_isSound 65 = .ok (.ifCond .ge 10, 3) := by decide +kernel
theorem dL_isSound_68 : decode cL_isSound 68 = .ok (.iconst 1, 1) := by decide +kernel
theorem dL_isSound_69 : decode cL_isSound 69 = .ok (.iload 6, 2) := by decide +kernel
theorem dL_isSound_71 : decode cL_isSound 71 = .ok (.ishl, 1) := by decide +kernel
theorem dL_isSound_72 : decode cL_isSound 72 = .ok (.goto 4, 3) := by decide +kernel
theorem dL_isSound_75 : decode cL_isSound 75 = .ok (.iconst 0, 1) := by decide +kernel
theorem dL_isSound_76 : decode cL_isSound 76 = .ok (.ior, 1) := by decide +kernel
theorem dL_isSound_77 : decode cL_isSound 77 = .ok (.istore 4, 2) := by decide +kernel
theorem dL_isSound_79 : decode cL_isSound 79 = .ok (.aload_n 0, 1) := by decide +kernel
theorem dL_isSound_80 : decode cL_isSound 80 = .ok (.iload_n 1, 1) := by decide +kernel
theorem dL_isSound_81 : decode cL_isSound 81 = .ok (.iconst 0, 1) := by decide +kernel
theorem dL_isSound_82 : decode cL_isSound 82 = .ok (.iload 6, 2) := by decide +kernel
theorem dL_isSound_84 : decode cL_isSound 84 = .ok (.invokevirtual 57, 3) := by decide +kernel
theorem dL_isSound_87 : decode cL_isSound 87 = .ok (.iload 5, 2) := by decide +kernel
theorem dL_isSound_89 : decode cL_isSound 89 = .ok (.if_icmp .le 14, 3) := by decide +kernel
theorem dL_isSound_92 : decode cL_isSound 92 = .ok (.aload_n 0, 1) := by decide +kernel
theorem dL_isSound_93 : decode cL_isSound 93 = .ok (.iload_n 1, 1) := by decide +kernel
theorem dL_isSound_94 : decode cL_isSound 94 = .ok (.iconst 0, 1) := by decide +kernel
theorem dL_isSound_95 : decode cL_isSound 95 = .ok (.iload 6, 2) := by decide +kernel
theorem dL_isSound_97 : decode cL_isSound 97 = .ok (.invokevirtual 57, 3) := by decide +kernel
theorem dL_isSound_100 : decode cL_isSound 100 = .ok (.goto 5, 3) := by decide +kernel
theorem dL_isSound_103 : decode cL_isSound 103 = .ok (.iload 5, 2) := by decide +kernel
theorem dL_isSound_105 : decode cL_isSound 105 = .ok (.istore 5, 2) := by decide +kernel
theorem dL_isSound_107 : decode cL_isSound 107 = .ok (.iinc 6 1, 3) := by decide +kernel
theorem dL_isSound_110 : decode cL_isSound 110 = .ok (.goto (-99), 3) := by decide +kernel
theorem dL_isSound_113 : decode cL_isSound 113 = .ok (.aload_n 0, 1) := by decide +kernel
theorem dL_isSound_114 : decode cL_isSound 114 = .ok (.iload_n 1, 1) := by decide +kernel
theorem dL_isSound_115 : decode cL_isSound 115 = .ok (.invokevirtual 73, 3) := by decide +kernel
theorem dL_isSound_118 : decode cL_isSound 118 = .ok (.aload_n 0, 1) := by decide +kernel
theorem dL_isSound_119 : decode cL_isSound 119 = .ok (.iload_n 1, 1) := by decide +kernel
theorem dL_isSound_120 : decode cL_isSound 120 = .ok (.invokevirtual 76, 3) := by decide +kernel
theorem dL_isSound_123 : decode cL_isSound 123 = .ok (.isub, 1) := by decide +kernel
theorem dL_isSound_124 : decode cL_isSound 124 = .ok (.aload_n 0, 1) := by decide +kernel
theorem dL_isSound_125 : decode cL_isSound 125 = .ok (.iload_n 1, 1) := by decide +kernel
theorem dL_isSound_126 : decode cL_isSound 126 = .ok (.invokevirtual 79, 3) := by decide +kernel
theorem dL_isSound_129 : decode cL_isSound 129 = .ok (.isub, 1) := by decide +kernel
theorem dL_isSound_130 : decode cL_isSound 130 = .ok (.istore 6, 2) := by decide +kernel
theorem dL_isSound_132 : decode cL_isSound 132 = .ok (.aload_n 0, 1) := by decide +kernel
theorem dL_isSound_133 : decode cL_isSound 133 = .ok (.iload_n 1, 1) := by decide +kernel
theorem dL_isSound_134 : decode cL_isSound 134 = .ok (.invokevirtual 79, 3) := by decide +kernel
theorem dL_isSound_137 : decode cL_isSound 137 = .ok (.iload_n 3, 1) := by decide +kernel
theorem dL_isSound_138 : decode cL_isSound 138 = .ok (.if_icmp .ne 74, 3) := by decide +kernel
theorem dL_isSound_141 : decode cL_isSound 141 = .ok (.aload_n 0, 1) := by decide +kernel
theorem dL_isSound_142 : decode cL_isSound 142 = .ok (.iload_n 1, 1) := by decide +kernel
theorem dL_isSound_143 : decode cL_isSound 143 = .ok (.invokevirtual 82, 3) := by decide +kernel
theorem dL_isSound_146 : decode cL_isSound 146 = .ok (.iload 4, 2) := by decide +kernel
theorem dL_isSound_148 : decode cL_isSound 148 = .ok (.if_icmp .ne 64, 3) := by decide +kernel
theorem dL_isSound_151 : decode cL_isSound 151 = .ok (.iload 6, 2) := by decide +kernel
theorem dL_isSound_153 : decode cL_isSound 153 = .ok (.bipush (-20), 2) := by decide +kernel
theorem dL_isSound_155 : decode cL_isSound 155 = .ok (.if_icmp .lt 57, 3) := by decide +kernel
theorem dL_isSound_158 : decode cL_isSound 158 = .ok (.iload 6, 2) := by decide +kernel
theorem dL_isSound_160 : decode cL_isSound 160 = .ok (.bipush 20, 2) := by decide +kernel
theorem dL_isSound_162 : decode cL_isSound 162 = .ok (.if_icmp .gt 50, 3) := by decide +kernel
theorem dL_isSound_165 : decode cL_isSound 165 = .ok (.aload_n 0, 1) := by decide +kernel
theorem dL_isSound_166 : decode cL_isSound 166 = .ok (.iload_n 1, 1) := by decide +kernel
theorem dL_isSound_167 : decode cL_isSound 167 = .ok (.invokevirtual 73, 3) := by decide +kernel
theorem dL_isSound_170 : decode cL_isSound 170 = .ok (.ifCond .lt 42, 3) := by decide +kernel
theorem dL_isSound_173 : decode cL_isSound 173 = .ok (.aload_n 0, 1) := by decide +kernel
theorem dL_isSound_174 : decode cL_isSound 174 = .ok (.iload_n 1, 1) := by decide +kernel
theorem dL_isSound_175 : decode cL_isSound 175 = .ok (.invokevirtual 76, 3) := by decide +kernel
theorem dL_isSound_178 : decode cL_isSound 178 = .ok (.ifCond .lt 34, 3) := by decide +kernel
theorem dL_isSound_181 : decode cL_isSound 181 = .ok (.iload 4, 2) := by decide +kernel
theorem dL_isSound_183 : decode cL_isSound 183 = .ok (.ifCond .ne 7, 3) := by decide +kernel
theorem dL_isSound_186 : decode cL_isSound 186 = .ok (.iconst 1, 1) := by decide +kernel
theorem dL_isSound_187 : decode cL_isSound 187 = .ok (.goto 4, 3) := by decide +kernel
theorem dL_isSound_190 : decode cL_isSound 190 = .ok (.iconst 0, 1) := by decide +kernel
theorem dL_isSound_191 : decode cL_isSound 191 = .ok (.aload_n 0, 1) := by decide +kernel
theorem dL_isSound_192 : decode cL_isSound 192 = .ok (.iload_n 1, 1) := by decide +kernel
theorem dL_isSound_193 : decode cL_isSound 193 = .ok (.invokevirtual 76, 3) := by decide +kernel
theorem dL_isSound_196 : decode cL_isSound 196 = .ok (.ifCond .ne 7, 3) := by decide +kernel
theorem dL_isSound_199 : decode cL_isSound 199 = .ok (.iconst 1, 1) := by decide +kernel
theorem dL_isSound_200 : decode cL_isSound 200 = .ok (.goto 4, 3) := by decide +kernel
theorem dL_isSound_203 : decode cL_isSound 203 = .ok (.iconst 0, 1) := by decide +kernel
theorem dL_isSound_204 : decode cL_isSound 204 = .ok (.if_icmp .eq 10, 3) := by decide +kernel
theorem dL_isSound_207 : decode cL_isSound 207 = .ok (.iload 4, 2) := by decide +kernel
theorem dL_isSound_209 : decode cL_isSound 209 = .ok (.ifCond .ne 5, 3) := by decide +kernel
theorem dL_isSound_212 : decode cL_isSound 212 = .ok (.iconst 0, 1) := by decide +kernel
theorem dL_isSound_213 : decode cL_isSound 213 = .ok (.ireturn, 1) := by decide +kernel
theorem dL_isSound_214 : decode cL_isSound 214 = .ok (.aload_n 0, 1) := by decide +kernel
theorem dL_isSound_215 : decode cL_isSound 215 = .ok (.iload_n 1, 1) := by decide +kernel
theorem dL_isSound_216 : decode cL_isSound 216 = .ok (.invokevirtual 85, 3) := by decide +kernel
theorem dL_isSound_219 : decode cL_isSound 219 = .ok (.bipush 25, 2) := by decide +kernel
theorem dL_isSound_221 : decode cL_isSound 221 = .ok (.iload_n 3, 1) := by decide +kernel
theorem dL_isSound_222 : decode cL_isSound 222 = .ok (.imul, 1) := by decide +kernel
theorem dL_isSound_223 : decode cL_isSound 223 = .ok (.if_icmp .ne 59, 3) := by decide +kernel
theorem dL_isSound_226 : decode cL_isSound 226 = .ok (.aload_n 0, 1) := by decide +kernel
theorem dL_isSound_227 : decode cL_isSound 227 = .ok (.iload_n 1, 1) := by decide +kernel
theorem dL_isSound_228 : decode cL_isSound 228 = .ok (.iconst 0, 1) := by decide +kernel
theorem dL_isSound_229 : decode cL_isSound 229 = .ok (.invokevirtual 64, 3) := by decide +kernel
theorem dL_isSound_232 : decode cL_isSound 232 = .ok (.aload_n 0, 1) := by decide +kernel
theorem dL_isSound_233 : decode cL_isSound 233 = .ok (.iload_n 1, 1) := by decide +kernel
theorem dL_isSound_234 : decode cL_isSound 234 = .ok (.iconst 1, 1) := by decide +kernel
theorem dL_isSound_235 : decode cL_isSound 235 = .ok (.invokevirtual 64, 3) := by decide +kernel
theorem dL_isSound_238 : decode cL_isSound 238 = .ok (.if_icmp .gt 44, 3) := by decide +kernel
theorem dL_isSound_241 : decode cL_isSound 241 = .ok (.aload_n 0, 1) := by decide +kernel
theorem dL_isSound_242 : decode cL_isSound 242 = .ok (.iload_n 1, 1) := by decide +kernel
theorem dL_isSound_243 : decode cL_isSound 243 = .ok (.iconst 1, 1) := by decide +kernel
theorem dL_isSound_244 : decode cL_isSound 244 = .ok (.invokevirtual 64, 3) := by decide +kernel
theorem dL_isSound_247 : decode cL_isSound 247 = .ok (.aload_n 0, 1) := by decide +kernel
theorem dL_isSound_248 : decode cL_isSound 248 = .ok (.iload_n 1, 1) := by decide +kernel
theorem dL_isSound_249 : decode cL_isSound 249 = .ok (.iconst 2, 1) := by decide +kernel
theorem dL_isSound_250 : decode cL_isSound 250 = .ok (.invokevirtual 64, 3) := by decide +kernel
theorem dL_isSound_253 : decode cL_isSound 253 = .ok (.if_icmp .gt 29, 3) := by decide +kernel
theorem dL_isSound_256 : decode cL_isSound 256 = .ok (.aload_n 0, 1) := by decide +kernel
theorem dL_isSound_257 : decode cL_isSound 257 = .ok (.iload_n 1, 1) := by decide +kernel
theorem dL_isSound_258 : decode cL_isSound 258 = .ok (.iconst 1, 1) := by decide +kernel
theorem dL_isSound_259 : decode cL_isSound 259 = .ok (.invokevirtual 64, 3) := by decide +kernel
theorem dL_isSound_262 : decode cL_isSound 262 = .ok (.aload_n 0, 1) := by decide +kernel
theorem dL_isSound_263 : decode cL_isSound 263 = .ok (.iload_n 1, 1) := by decide +kernel
theorem dL_isSound_264 : decode cL_isSound 264 = .ok (.iconst 2, 1) := by decide +kernel
theorem dL_isSound_265 : decode cL_isSound 265 = .ok (.invokevirtual 64, 3) := by decide +kernel
theorem dL_isSound_268 : decode cL_isSound 268 = .ok (.if_icmp .ne 16, 3) := by decide +kernel
theorem dL_isSound_271 : decode cL_isSound 271 = .ok (.aload_n 0, 1) := by decide +kernel
theorem dL_isSound_272 : decode cL_isSound 272 = .ok (.iload_n 1, 1) := by decide +kernel
theorem dL_isSound_273 : decode cL_isSound 273 = .ok (.iconst 1, 1) := by decide +kernel
theorem dL_isSound_274 : decode cL_isSound 274 = .ok (.invokevirtual 64, 3) := by decide +kernel
theorem dL_isSound_277 : decode cL_isSound 277 = .ok (.bipush 20, 2) := by decide +kernel
theorem dL_isSound_279 : decode cL_isSound 279 = .ok (.if_icmp .eq 5, 3) := by decide +kernel
theorem dL_isSound_282 : decode cL_isSound 282 = .ok (.iconst 0, 1) := by decide +kernel
theorem dL_isSound_283 : decode cL_isSound 283 = .ok (.ireturn, 1) := by decide +kernel
theorem dL_isSound_284 : decode cL_isSound 284 = .ok (.aload_n 0, 1) := by decide +kernel
theorem dL_isSound_285 : decode cL_isSound 285 = .ok (.iload_n 1, 1) := by decide +kernel
theorem dL_isSound_286 : decode cL_isSound 286 = .ok (.invokevirtual 40, 3) := by decide +kernel
theorem dL_isSound_289 : decode cL_isSound 289 = .ok (.istore 7, 2) := by decide +kernel
theorem dL_isSound_291 : decode cL_isSound 291 = .ok (.aload_n 0, 1) := by decide +kernel
theorem dL_isSound_292 : decode cL_isSound 292 = .ok (.iload_n 1, 1) := by decide +kernel
theorem dL_isSound_293 : decode cL_isSound 293 = .ok (.invokevirtual 51, 3) := by decide +kernel
theorem dL_isSound_296 : decode cL_isSound 296 = .ok (.istore 8, 2) := by decide +kernel
theorem dL_isSound_298 : decode cL_isSound 298 = .ok (.iload_n 2, 1) := by decide +kernel
theorem dL_isSound_299 : decode cL_isSound 299 = .ok (.bipush 11, 2) := by decide +kernel
theorem dL_isSound_301 : decode cL_isSound 301 = .ok (.invokestatic 88, 3) := by decide +kernel
theorem dL_isSound_304 : decode cL_isSound 304 = .ok (.iconst 5, 1) := by decide +kernel
theorem dL_isSound_305 : decode cL_isSound 305 = .ok (.isub, 1) := by decide +kernel
theorem dL_isSound_306 : decode cL_isSound 306 = .ok (.istore 9, 2) := by decide +kernel
theorem dL_isSound_308 : decode cL_isSound 308 = .ok (.iconst 0, 1) := by decide +kernel
theorem dL_isSound_309 : decode cL_isSound 309 = .ok (.istore 10, 2) := by decide +kernel
theorem dL_isSound_311 : decode cL_isSound 311 = .ok (.iconst 0, 1) := by decide +kernel
theorem dL_isSound_312 : decode cL_isSound 312 = .ok (.istore 11, 2) := by decide +kernel
theorem dL_isSound_314 : decode cL_isSound 314 = .ok (.iconst 0, 1) := by decide +kernel
theorem dL_isSound_315 : decode cL_isSound 315 = .ok (.istore 12, 2) := by decide +kernel
theorem dL_isSound_317 : decode cL_isSound 317 = .ok (.iload 12, 2) := by decide +kernel
theorem dL_isSound_319 : decode cL_isSound 319 = .ok (.iconst 4, 1) := by decide +kernel
theorem dL_isSound_320 : decode cL_isSound 320 = .ok (.if_icmp .ge 114, 3) := by decide +kernel
theorem dL_isSound_323 : decode cL_isSound 323 = .ok (.aload_n 0, 1) := by decide +kernel
theorem dL_isSound_324 : decode cL_isSound 324 = .ok (.iload_n 1, 1) := by decide +kernel
theorem dL_isSound_325 : decode cL_isSound 325 = .ok (.iload 12, 2) := by decide +kernel
theorem dL_isSound_327 : decode cL_isSound 327 = .ok (.invokevirtual 93, 3) := by decide +kernel
theorem dL_isSound_330 : decode cL_isSound 330 = .ok (.istore 13, 2) := by decide +kernel
theorem dL_isSound_332 : decode cL_isSound 332 = .ok (.iload 13, 2) := by decide +kernel
theorem dL_isSound_334 : decode cL_isSound 334 = .ok (.iload 12, 2) := by decide +kernel
theorem dL_isSound_336 : decode cL_isSound 336 = .ok (.iconst 3, 1) := by decide +kernel
theorem dL_isSound_337 : decode cL_isSound 337 = .ok (.if_icmp .ne 20, 3) := by decide +kernel
theorem dL_isSound_340 : decode cL_isSound 340 = .ok (.aload_n 0, 1) := by decide +kernel
theorem dL_isSound_341 : decode cL_isSound 341 = .ok (.iload 7, 2) := by decide +kernel
theorem dL_isSound_343 : decode cL_isSound 343 = .ok (.iconst 3, 1) := by decide +kernel
theorem dL_isSound_344 : decode cL_isSound 344 = .ok (.invokevirtual 10, 3) := by decide +kernel
theorem dL_isSound_347 : decode cL_isSound 347 = .ok (.aload_n 0, 1) := by decide +kernel
theorem dL_isSound_348 : decode cL_isSound 348 = .ok (.iload_n 1, 1) := by decide +kernel
theorem dL_isSound_349 : decode cL_isSound 349 = .ok (.iconst 3, 1) := by decide +kernel
theorem dL_isSound_350 : decode cL_isSound 350 = .ok (.invokevirtual 64, 3) := by decide +kernel
theorem dL_isSound_353 : decode cL_isSound 353 = .ok (.isub, 1) := by decide +kernel
theorem dL_isSound_354 : decode cL_isSound 354 = .ok (.goto 19, 3) := by decide +kernel
theorem dL_isSound_357 : decode cL_isSound 357 = .ok (.aload_n 0, 1) := by decide +kernel
theorem dL_isSound_358 : decode cL_isSound 358 = .ok (.iload_n 1, 1) := by decide +kernel
theorem dL_isSound_359 : decode cL_isSound 359 = .ok (.iload 12, 2) := by decide +kernel
theorem dL_isSound_361 : decode cL_isSound 361 = .ok (.invokevirtual 64, 3) := by decide +kernel
theorem dL_isSound_364 : decode cL_isSound 364 = .ok (.aload_n 0, 1) := by decide +kernel
theorem dL_isSound_365 : decode cL_isSound 365 = .ok (.iload 7, 2) := by decide +kernel
theorem dL_isSound_367 : decode cL_isSound 367 = .ok (.iload 12, 2) := by decide +kernel
theorem dL_isSound_369 : decode cL_isSound 369 = .ok (.invokevirtual 10, 3) := by decide +kernel
theorem dL_isSound_372 : decode cL_isSound 372 = .ok (.isub, 1) := by decide +kernel
theorem dL_isSound_373 : decode cL_isSound 373 = .ok (.if_icmp .eq 5, 3) := by decide +kernel
theorem dL_isSound_376 : decode cL_isSound 376 = .ok (.iconst 0, 1) := by decide +kernel
theorem dL_isSound_377 : decode cL_isSound 377 = .ok (.ireturn, 1) := by decide +kernel
theorem dL_isSound_378 : decode cL_isSound 378 = .ok (.iload 10, 2) := by decide +kernel
theorem dL_isSound_380 : decode cL_isSound 380 = .ok (.iload 13, 2) := by decide +kernel
theorem dL_isSound_382 : decode cL_isSound 382 = .ok (.iload 8, 2) := by decide +kernel
theorem dL_isSound_384 : decode cL_isSound 384 = .ok (.if_icmp .ge 11, 3) := by decide +kernel
theorem dL_isSound_387 : decode cL_isSound 387 = .ok (.iload 8, 2) := by decide +kernel
theorem dL_isSound_389 : decode cL_isSound 389 = .ok (.iload 13, 2) := by decide +kernel
theorem dL_isSound_391 : decode cL_isSound 391 = .ok (.isub, 1) := by decide +kernel
theorem dL_isSound_392 : decode cL_isSound 392 = .ok (.goto 8, 3) := by decide +kernel
theorem dL_isSound_395 : decode cL_isSound 395 = .ok (.iload 13, 2) := by decide +kernel
theorem dL_isSound_397 : decode cL_isSound 397 = .ok (.iload 8, 2) := by decide +kernel
theorem dL_isSound_399 : decode cL_isSound 399 = .ok (.isub, 1) := by decide +kernel
theorem dL_isSound_400 : decode cL_isSound 400 = .ok (.iadd, 1) := by decide +kernel
theorem dL_isSound_401 : decode cL_isSound 401 = .ok (.istore 10, 2) := by decide +kernel
theorem dL_isSound_403 : decode cL_isSound 403 = .ok (.iload 11, 2) := by decide +kernel
theorem dL_isSound_405 : decode cL_isSound 405 = .ok (.iload 13, 2) := by decide +kernel
theorem dL_isSound_407 : decode cL_isSound 407 = .ok (.iload 9, 2) := by decide +kernel
theorem dL_isSound_409 : decode cL_isSound 409 = .ok (.if_icmp .ge 11, 3) := by decide +kernel
theorem dL_isSound_412 : decode cL_isSound 412 = .ok (.iload 9, 2) := by decide +kernel
theorem dL_isSound_414 : decode cL_isSound 414 = .ok (.iload 13, 2) := by decide +kernel
theorem dL_isSound_416 : decode cL_isSound 416 = .ok (.isub, 1) := by decide +kernel
theorem dL_isSound_417 : decode cL_isSound 417 = .ok (.goto 8, 3) := by decide +kernel
theorem dL_isSound_420 : decode cL_isSound 420 = .ok (.iload 13, 2) := by decide +kernel
theorem dL_isSound_422 : decode cL_isSound 422 = .ok (.iload 9, 2) := by decide +kernel
theorem dL_isSound_424 : decode cL_isSound 424 = .ok (.isub, 1) := by decide +kernel
theorem dL_isSound_425 : decode cL_isSound 425 = .ok (.iadd, 1) := by decide +kernel
theorem dL_isSound_426 : decode cL_isSound 426 = .ok (.istore 11, 2) := by decide +kernel
theorem dL_isSound_428 : decode cL_isSound 428 = .ok (.iinc 12 1, 3) := by decide +kernel
theorem dL_isSound_431 : decode cL_isSound 431 = .ok (.goto (-114), 3) := by decide +kernel
theorem dL_isSound_434 : decode cL_isSound 434 = .ok (.iload 8, 2) := by decide +kernel
theorem dL_isSound_436 : decode cL_isSound 436 = .ok (.bipush (-6), 2) := by decide +kernel
theorem dL_isSound_438 : decode cL_isSound 438 = .ok (.if_icmp .le 38, 3) := by decide +kernel
theorem dL_isSound_441 : decode cL_isSound 441 = .ok (.iload 8, 2) := by decide +kernel
theorem dL_isSound_443 : decode cL_isSound 443 = .ok (.bipush 6, 2) := by decide +kernel
theorem dL_isSound_445 : decode cL_isSound 445 = .ok (.if_icmp .ge 31, 3) := by decide +kernel
theorem dL_isSound_448 : decode cL_isSound 448 = .ok (.iload 10, 2) := by decide +kernel
theorem dL_isSound_450 : decode cL_isSound 450 = .ok (.iload 11, 2) := by decide +kernel
theorem dL_isSound_452 : decode cL_isSound 452 = .ok (.if_icmp .gt 24, 3) := by decide +kernel
theorem dL_isSound_455 : decode cL_isSound 455 = .ok (.aload_n 0, 1) := by decide +kernel
theorem dL_isSound_456 : decode cL_isSound 456 = .ok (.iload_n 1, 1) := by decide +kernel
theorem dL_isSound_457 : decode cL_isSound 457 = .ok (.iconst 0, 1) := by decide +kernel
theorem dL_isSound_458 : decode cL_isSound 458 = .ok (.aload_n 0, 1) := by decide +kernel
theorem dL_isSound_459 : decode cL_isSound 459 = .ok (.iload_n 1, 1) := by decide +kernel
theorem dL_isSound_460 : decode cL_isSound 460 = .ok (.iconst 0, 1) := by decide +kernel
theorem dL_isSound_461 : decode cL_isSound 461 = .ok (.invokevirtual 64, 3) := by decide +kernel
theorem dL_isSound_464 : decode cL_isSound 464 = .ok (.invokevirtual 57, 3) := by decide +kernel
theorem dL_isSound_467 : decode cL_isSound 467 = .ok (.iload 5, 2) := by decide +kernel
theorem dL_isSound_469 : decode cL_isSound 469 = .ok (.if_icmp .gt 7, 3) := by decide +kernel
theorem dL_isSound_472 : decode cL_isSound 472 = .ok (.iconst 1, 1) := by decide +kernel
theorem dL_isSound_473 : decode cL_isSound 473 = .ok (.goto 4, 3) := by decide +kernel
theorem dL_isSound_476 : decode cL_isSound 476 = .ok (.iconst 0, 1) := by decide +kernel
theorem dL_isSound_477 : decode cL_isSound 477 = .ok (.ireturn, 1) := by decide +kernel
theorem dL_acts_0 : decode cL_acts 0 = .ok (.iload_n 1, 1) := by decide +kernel
theorem dL_acts_1 : decode cL_acts 1 = .ok (.iconst 4, 1) := by decide +kernel
theorem dL_acts_2 : decode cL_acts 2 = .ok (.ishr, 1) := by decide +kernel
theorem dL_acts_3 : decode cL_acts 3 = .ok (.iload_n 1, 1) := by decide +kernel
theorem dL_acts_4 : decode cL_acts 4 = .ok (.bipush 26, 2) := by decide +kernel
theorem dL_acts_6 : decode cL_acts 6 = .ok (.ishr, 1) := by decide +kernel
theorem dL_acts_7 : decode cL_acts 7 = .ok (.bipush 7, 2) := by decide +kernel
theorem dL_acts_9 : decode cL_acts 9 = .ok (.iand, 1) := by decide +kernel
theorem dL_acts_10 : decode cL_acts 10 = .ok (.ifCond .ne 7, 3) := by decide +kernel
theorem dL_acts_13 : decode cL_acts 13 = .ok (.iconst 3, 1) := by decide +kernel
theorem dL_acts_14 : decode cL_acts 14 = .ok (.goto 4, 3) := by decide +kernel
theorem dL_acts_17 : decode cL_acts 17 = .ok (.iconst 2, 1) := by decide +kernel
theorem dL_acts_18 : decode cL_acts 18 = .ok (.invokestatic 88, 3) := by decide +kernel
theorem dL_acts_21 : decode cL_acts 21 = .ok (.istore_n 2, 1) := by decide +kernel
theorem dL_acts_22 : decode cL_acts 22 = .ok (.iload_n 1, 1) := by decide +kernel
theorem dL_acts_23 : decode cL_acts 23 = .ok (.bipush 16, 2) := by decide +kernel
theorem dL_acts_25 : decode cL_acts 25 = .ok (.invokestatic 88, 3) := by decide +kernel
theorem dL_acts_28 : decode cL_acts 28 = .ok (.tableswitch 329 0 14 #[76, 90, 106, 121, 139, 156, 179, 221, 237, 237, 267, 272, 272, 272, 311], 76) := by decide +kernel
theorem dL_acts_104 : decode cL_acts 104 = .ok (.aload_n 0, 1) := by decide +kernel
theorem dL_acts_105 : decode cL_acts 105 = .ok (.iload_n 1, 1) := by decide +kernel
theorem dL_acts_106 : decode cL_acts 106 = .ok (.bipush 8, 2) := by decide +kernel
theorem dL_acts_108 : decode cL_acts 108 = .ok (.ishr, 1) := by decide +kernel
theorem dL_acts_109 : decode cL_acts 109 = .ok (.bipush 22, 2) := by decide +kernel
theorem dL_acts_111 : decode cL_acts 111 = .ok (.invokestatic 88, 3) := by decide +kernel
theorem dL_acts_114 : decode cL_acts 114 = .ok (.invokevirtual 96, 3) := by decide +kernel
theorem dL_acts_117 : decode cL_acts 117 = .ok (.ireturn, 1) := by decide +kernel
theorem dL_acts_118 : decode cL_acts 118 = .ok (.aload_n 0, 1) := by decide +kernel
theorem dL_acts_119 : decode cL_acts 119 = .ok (.iload_n 2, 1) := by decide +kernel
theorem dL_acts_120 : decode cL_acts 120 = .ok (.iload_n 1, 1) := by decide +kernel
theorem dL_acts_121 : decode cL_acts 121 = .ok (.bipush 8, 2) := by decide +kernel
theorem dL_acts_123 : decode cL_acts 123 = .ok (.ishr, 1) := by decide +kernel
theorem dL_acts_124 : decode cL_acts 124 = .ok (.sipush 5002, 3) := by decide +kernel
theorem dL_acts_127 : decode cL_acts 127 = .ok (.invokestatic 88, 3) := by decide +kernel
theorem dL_acts_130 : decode cL_acts 130 = .ok (.invokevirtual 99, 3) := by decide +kernel
theorem dL_acts_133 : decode cL_acts 133 = .ok (.ireturn, 1) := by decide +kernel
theorem dL_acts_134 : decode cL_acts 134 = .ok (.aload_n 0, 1) := by decide +kernel
theorem dL_acts_135 : decode cL_acts 135 = .ok (.iload_n 1, 1) := by decide +kernel
theorem dL_acts_136 : decode cL_acts 136 = .ok (.bipush 8, 2) := by decide +kernel
theorem dL_acts_138 : decode cL_acts 138 = .ok (.ishr, 1) := by decide +kernel
theorem dL_acts_139 : decode cL_acts 139 = .ok (.sipush 302, 3) := by decide +kernel
theorem dL_acts_142 : decode cL_acts 142 = .ok (.invokestatic 88, 3) := by decide +kernel
theorem dL_acts_145 : decode cL_acts 145 = .ok (.invokevirtual 102, 3) := by decide +kernel
theorem dL_acts_148 : decode cL_acts 148 = .ok (.ireturn, 1) := by decide +kernel
theorem dL_acts_149 : decode cL_acts 149 = .ok (.aload_n 0, 1) := by decide +kernel
theorem dL_acts_150 : decode cL_acts 150 = .ok (.bipush 99, 2) := by decide +kernel
theorem dL_acts_152 : decode cL_acts 152 = .ok (.iload_n 1, 1) := by decide +kernel
theorem dL_acts_153 : decode cL_acts 153 = .ok (.bipush 8, 2) := by decide +kernel
theorem dL_acts_155 : decode cL_acts 155 = .ok (.ishr, 1) := by decide +kernel
theorem dL_acts_156 : decode cL_acts 156 = .ok (.sipush 1903, 3) := by decide +kernel
theorem dL_acts_159 : decode cL_acts 159 = .ok (.invokestatic 88, 3) := by decide +kernel
theorem dL_acts_162 : decode cL_acts 162 = .ok (.iadd, 1) := by decide +kernel
theorem dL_acts_163 : decode cL_acts 163 = .ok (.invokevirtual 105, 3) := by decide +kernel
theorem dL_acts_166 : decode cL_acts 166 = .ok (.ireturn, 1) := by decide +kernel
theorem dL_acts_167 : decode cL_acts 167 = .ok (.aload_n 0, 1) := by decide +kernel
theorem dL_acts_168 : decode cL_acts 168 = .ok (.bipush 9, 2) := by decide +kernel
theorem dL_acts_170 : decode cL_acts 170 = .ok (.iload_n 1, 1) := by decide +kernel
theorem dL_acts_171 : decode cL_acts 171 = .ok (.bipush 8, 2) := by decide +kernel
theorem dL_acts_173 : decode cL_acts 173 = .ok (.ishr, 1) := by decide +kernel
theorem dL_acts_174 : decode cL_acts 174 = .ok (.bipush 92, 2) := by decide +kernel
theorem dL_acts_176 : decode cL_acts 176 = .ok (.invokestatic 88, 3) := by decide +kernel
theorem dL_acts_179 : decode cL_acts 179 = .ok (.iadd, 1) := by decide +kernel
theorem dL_acts_180 : decode cL_acts 180 = .ok (.invokevirtual 108, 3) := by decide +kernel
theorem dL_acts_183 : decode cL_acts 183 = .ok (.ireturn, 1) := by decide +kernel
theorem dL_acts_184 : decode cL_acts 184 = .ok (.aload_n 0, 1) := by decide +kernel
theorem dL_acts_185 : decode cL_acts 185 = .ok (.iload_n 1, 1) := by decide +kernel
theorem dL_acts_186 : decode cL_acts 186 = .ok (.bipush 8, 2) := by decide +kernel
theorem dL_acts_188 : decode cL_acts 188 = .ok (.ishr, 1) := by decide +kernel
theorem dL_acts_189 : decode cL_acts 189 = .ok (.bipush 102, 2) := by decide +kernel
theorem dL_acts_191 : decode cL_acts 191 = .ok (.invokestatic 88, 3) := by decide +kernel
theorem dL_acts_194 : decode cL_acts 194 = .ok (.iload_n 1, 1) := by decide +kernel
theorem dL_acts_195 : decode cL_acts 195 = .ok (.bipush 15, 2) := by decide +kernel
theorem dL_acts_197 : decode cL_acts 197 = .ok (.ishr, 1) := by decide +kernel
theorem dL_acts_198 : decode cL_acts 198 = .ok (.bipush 52, 2) := by decide +kernel
theorem dL_acts_200 : decode cL_acts 200 = .ok (.invokestatic 88, 3) := by decide +kernel
theorem dL_acts_203 : decode cL_acts 203 = .ok (.invokevirtual 111, 3) := by decide +kernel
theorem dL_acts_206 : decode cL_acts 206 = .ok (.ireturn, 1) := by decide +kernel
theorem dL_acts_207 : decode cL_acts 207 = .ok (.aload_n 0, 1) := by decide +kernel
theorem dL_acts_208 : decode cL_acts 208 = .ok (.iload_n 2, 1) := by decide +kernel
theorem dL_acts_209 : decode cL_acts 209 = .ok (.iload_n 1, 1) := by decide +kernel
theorem dL_acts_210 : decode cL_acts 210 = .ok (.bipush 6, 2) := by decide +kernel
theorem dL_acts_212 : decode cL_acts 212 = .ok (.ishr, 1) := by decide +kernel
theorem dL_acts_213 : decode cL_acts 213 = .ok (.bipush 7, 2) := by decide +kernel
theorem dL_acts_215 : decode cL_acts 215 = .ok (.invokestatic 88, 3) := by decide +kernel
theorem dL_acts_218 : decode cL_acts 218 = .ok (.iload_n 1, 1) := by decide +kernel
theorem dL_acts_219 : decode cL_acts 219 = .ok (.bipush 9, 2) := by decide +kernel
theorem dL_acts_221 : decode cL_acts 221 = .ok (.ishr, 1) := by decide +kernel
theorem dL_acts_222 : decode cL_acts 222 = .ok (.bipush 20, 2) := by decide +kernel
theorem dL_acts_224 : decode cL_acts 224 = .ok (.invokestatic 88, 3) := by decide +kernel
theorem dL_acts_227 : decode cL_acts 227 = .ok (.iload_n 1, 1) := by decide +kernel
theorem dL_acts_228 : decode cL_acts 228 = .ok (.bipush 14, 2) := by decide +kernel
theorem dL_acts_230 : decode cL_acts 230 = .ok (.ishr, 1) := by decide +kernel
theorem dL_acts_231 : decode cL_acts 231 = .ok (.bipush 22, 2) := by decide +kernel
theorem dL_acts_233 : decode cL_acts 233 = .ok (.invokestatic 88, 3) := by decide +kernel
theorem dL_acts_236 : decode cL_acts 236 = .ok (.iload_n 1, 1) := by decide +kernel
theorem dL_acts_237 : decode cL_acts 237 = .ok (.bipush 18, 2) := by decide +kernel
theorem dL_acts_239 : decode cL_acts 239 = .ok (.ishr, 1) := by decide +kernel
theorem dL_acts_240 : decode cL_acts 240 = .ok (.bipush 21, 2) := by decide +kernel
theorem dL_acts_242 : decode cL_acts 242 = .ok (.invokestatic 88, 3) := by decide +kernel
theorem dL_acts_245 : decode cL_acts 245 = .ok (.invokevirtual 114, 3) := by decide +kernel
theorem dL_acts_248 : decode cL_acts 248 = .ok (.ireturn, 1) := by decide +kernel
theorem dL_acts_249 : decode cL_acts 249 = .ok (.aload_n 0, 1) := by decide +kernel
theorem dL_acts_250 : decode cL_acts 250 = .ok (.iload_n 2, 1) := by decide +kernel
theorem dL_acts_251 : decode cL_acts 251 = .ok (.iload_n 1, 1) := by decide +kernel
theorem dL_acts_252 : decode cL_acts 252 = .ok (.bipush 8, 2) := by decide +kernel
theorem dL_acts_254 : decode cL_acts 254 = .ok (.ishr, 1) := by decide +kernel
theorem dL_acts_255 : decode cL_acts 255 = .ok (.sipush 602, 3) := by decide +kernel
theorem dL_acts_258 : decode cL_acts 258 = .ok (.invokestatic 88, 3) := by decide +kernel
theorem dL_acts_261 : decode cL_acts 261 = .ok (.invokevirtual 118, 3) := by decide +kernel
theorem dL_acts_264 : decode cL_acts 264 = .ok (.ireturn, 1) := by decide +kernel
theorem dL_acts_265 : decode cL_acts 265 = .ok (.aload_n 0, 1) := by decide +kernel
theorem dL_acts_266 : decode cL_acts 266 = .ok (.iload_n 1, 1) := by decide +kernel
theorem dL_acts_267 : decode cL_acts 267 = .ok (.bipush 6, 2) := by decide +kernel
theorem dL_acts_269 : decode cL_acts 269 = .ok (.ishr, 1) := by decide +kernel
theorem dL_acts_270 : decode cL_acts 270 = .ok (.iconst 1, 1) := by decide +kernel
theorem dL_acts_271 : decode cL_acts 271 = .ok (.iand, 1) := by decide +kernel
theorem dL_acts_272 : decode cL_acts 272 = .ok (.iload_n 1, 1) := by decide +kernel
theorem dL_acts_273 : decode cL_acts 273 = .ok (.bipush 8, 2) := by decide +kernel
theorem dL_acts_275 : decode cL_acts 275 = .ok (.ishr, 1) := by decide +kernel
theorem dL_acts_276 : decode cL_acts 276 = .ok (.bipush 22, 2) := by decide +kernel
theorem dL_acts_278 : decode cL_acts 278 = .ok (.invokestatic 88, 3) := by decide +kernel
theorem dL_acts_281 : decode cL_acts 281 = .ok (.iload_n 1, 1) := by decide +kernel
theorem dL_acts_282 : decode cL_acts 282 = .ok (.bipush 13, 2) := by decide +kernel
theorem dL_acts_284 : decode cL_acts 284 = .ok (.ishr, 1) := by decide +kernel
theorem dL_acts_285 : decode cL_acts 285 = .ok (.sipush 5002, 3) := by decide +kernel
theorem dL_acts_288 : decode cL_acts 288 = .ok (.invokestatic 88, 3) := by decide +kernel
theorem dL_acts_291 : decode cL_acts 291 = .ok (.invokevirtual 121, 3) := by decide +kernel
theorem dL_acts_294 : decode cL_acts 294 = .ok (.ireturn, 1) := by decide +kernel
theorem dL_acts_295 : decode cL_acts 295 = .ok (.aload_n 0, 1) := by decide +kernel
theorem dL_acts_296 : decode cL_acts 296 = .ok (.invokevirtual 124, 3) := by decide +kernel
theorem dL_acts_299 : decode cL_acts 299 = .ok (.ireturn, 1) := by decide +kernel
theorem dL_acts_300 : decode cL_acts 300 = .ok (.aload_n 0, 1) := by decide +kernel
theorem dL_acts_301 : decode cL_acts 301 = .ok (.iload_n 2, 1) := by decide +kernel
theorem dL_acts_302 : decode cL_acts 302 = .ok (.iload_n 1, 1) := by decide +kernel
theorem dL_acts_303 : decode cL_acts 303 = .ok (.bipush 8, 2) := by decide +kernel
theorem dL_acts_305 : decode cL_acts 305 = .ok (.ishr, 1) := by decide +kernel
theorem dL_acts_306 : decode cL_acts 306 = .ok (.sipush 602, 3) := by decide +kernel
theorem dL_acts_309 : decode cL_acts 309 = .ok (.invokestatic 88, 3) := by decide +kernel
theorem dL_acts_312 : decode cL_acts 312 = .ok (.iload_n 1, 1) := by decide +kernel
theorem dL_acts_313 : decode cL_acts 313 = .ok (.bipush 18, 2) := by decide +kernel
theorem dL_acts_315 : decode cL_acts 315 = .ok (.ishr, 1) := by decide +kernel
theorem dL_acts_316 : decode cL_acts 316 = .ok (.bipush 8, 2) := by decide +kernel
theorem dL_acts_318 : decode cL_acts 318 = .ok (.invokestatic 88, 3) := by decide +kernel
theorem dL_acts_321 : decode cL_acts 321 = .ok (.iconst 4, 1) := by decide +kernel
theorem dL_acts_322 : decode cL_acts 322 = .ok (.isub, 1) := by decide +kernel
theorem dL_acts_323 : decode cL_acts 323 = .ok (.iload_n 1, 1) := by decide +kernel
theorem dL_acts_324 : decode cL_acts 324 = .ok (.bipush 21, 2) := by decide +kernel
theorem dL_acts_326 : decode cL_acts 326 = .ok (.ishr, 1) := by decide +kernel
theorem dL_acts_327 : decode cL_acts 327 = .ok (.bipush 42, 2) := by decide +kernel
theorem dL_acts_329 : decode cL_acts 329 = .ok (.invokestatic 88, 3) := by decide +kernel
theorem dL_acts_332 : decode cL_acts 332 = .ok (.bipush 20, 2) := by decide +kernel
theorem dL_acts_334 : decode cL_acts 334 = .ok (.isub, 1) := by decide +kernel
theorem dL_acts_335 : decode cL_acts 335 = .ok (.invokevirtual 127, 3) := by decide +kernel
theorem dL_acts_338 : decode cL_acts 338 = .ok (.ireturn, 1) := by decide +kernel
theorem dL_acts_339 : decode cL_acts 339 = .ok (.aload_n 0, 1) := by decide +kernel
theorem dL_acts_340 : decode cL_acts 340 = .ok (.iload_n 1, 1) := by decide +kernel
theorem dL_acts_341 : decode cL_acts 341 = .ok (.bipush 8, 2) := by decide +kernel
theorem dL_acts_343 : decode cL_acts 343 = .ok (.ishr, 1) := by decide +kernel
theorem dL_acts_344 : decode cL_acts 344 = .ok (.iconst 1, 1) := by decide +kernel
theorem dL_acts_345 : decode cL_acts 345 = .ok (.aload_n 0, 1) := by decide +kernel
theorem dL_acts_346 : decode cL_acts 346 = .ok (.invokevirtual 36, 3) := by decide +kernel
theorem dL_acts_349 : decode cL_acts 349 = .ok (.iadd, 1) := by decide +kernel
theorem dL_acts_350 : decode cL_acts 350 = .ok (.invokestatic 88, 3) := by decide +kernel
theorem dL_acts_353 : decode cL_acts 353 = .ok (.invokevirtual 131, 3) := by decide +kernel
theorem dL_acts_356 : decode cL_acts 356 = .ok (.ireturn, 1) := by decide +kernel
theorem dL_acts_357 : decode cL_acts 357 = .ok (.aload_n 0, 1) := by decide +kernel
theorem dL_acts_358 : decode cL_acts 358 = .ok (.iload_n 2, 1) := by decide +kernel
theorem dL_acts_359 : decode cL_acts 359 = .ok (.iload_n 1, 1) := by decide +kernel
theorem dL_acts_360 : decode cL_acts 360 = .ok (.bipush 8, 2) := by decide +kernel
theorem dL_acts_362 : decode cL_acts 362 = .ok (.ishr, 1) := by decide +kernel
theorem dL_acts_363 : decode cL_acts 363 = .ok (.bipush 102, 2) := by decide +kernel
theorem dL_acts_365 : decode cL_acts 365 = .ok (.invokestatic 88, 3) := by decide +kernel
theorem dL_acts_368 : decode cL_acts 368 = .ok (.invokevirtual 134, 3) := by decide +kernel
theorem dL_acts_371 : decode cL_acts 371 = .ok (.ireturn, 1) := by decide +kernel
theorem dL_areMeans_0 : decode cL_areMeans 0 = .ok (.iconst 0, 1) := by decide +kernel
theorem dL_areMeans_1 : decode cL_areMeans 1 = .ok (.istore_n 1, 1) := by decide +kernel
theorem dL_areMeans_2 : decode cL_areMeans 2 = .ok (.iload_n 1, 1) := by decide +kernel
theorem dL_areMeans_3 : decode cL_areMeans 3 = .ok (.iconst 2, 1) := by decide +kernel
theorem dL_areMeans_4 : decode cL_areMeans 4 = .ok (.if_icmp .ge 223, 3) := by decide +kernel
theorem dL_areMeans_7 : decode cL_areMeans 7 = .ok (.iconst 0, 1) := by decide +kernel
theorem dL_areMeans_8 : decode cL_areMeans 8 = .ok (.istore_n 2, 1) := by decide +kernel
theorem dL_areMeans_9 : decode cL_areMeans 9 = .ok (.lconst 0, 1) := by decide +kernel
theorem dL_areMeans_10 : decode cL_areMeans 10 = .ok (.lstore_n 3, 1) := by decide +kernel
theorem dL_areMeans_11 : decode cL_areMeans 11 = .ok (.lconst 0, 1) := by decide +kernel
theorem dL_areMeans_12 : decode cL_areMeans 12 = .ok (.lstore 5, 2) := by decide +kernel
theorem dL_areMeans_14 : decode cL_areMeans 14 = .ok (.iconst 0, 1) := by decide +kernel
theorem dL_areMeans_15 : decode cL_areMeans 15 = .ok (.istore 7, 2) := by decide +kernel
theorem dL_areMeans_17 : decode cL_areMeans 17 = .ok (.iload 7, 2) := by decide +kernel
theorem dL_areMeans_19 : decode cL_areMeans 19 = .ok (.aload_n 0, 1) := by decide +kernel
theorem dL_areMeans_20 : decode cL_areMeans 20 = .ok (.invokevirtual 36, 3) := by decide +kernel
theorem dL_areMeans_23 : decode cL_areMeans 23 = .ok (.if_icmp .ge 78, 3) := by decide +kernel
theorem dL_areMeans_26 : decode cL_areMeans 26 = .ok (.aload_n 0, 1) := by decide +kernel
theorem dL_areMeans_27 : decode cL_areMeans 27 = .ok (.iload 7, 2) := by decide +kernel
theorem dL_areMeans_29 : decode cL_areMeans 29 = .ok (.invokevirtual 40, 3) := by decide +kernel
theorem dL_areMeans_32 : decode cL_areMeans 32 = .ok (.iload_n 1, 1) := by decide +kernel
theorem dL_areMeans_33 : decode cL_areMeans 33 = .ok (.if_icmp .ne 7, 3) := by decide +kernel
theorem dL_areMeans_36 : decode cL_areMeans 36 = .ok (.iconst 1, 1) := by decide +kernel
theorem dL_areMeans_37 : decode cL_areMeans 37 = .ok (.goto 4, 3) := by decide +kernel
theorem dL_areMeans_40 : decode cL_areMeans 40 = .ok (.iconst 0, 1) := by decide +kernel
theorem dL_areMeans_41 : decode cL_areMeans 41 = .ok (.istore 8, 2) := by decide +kernel
theorem dL_areMeans_43 : decode cL_areMeans 43 = .ok (.iload_n 2, 1) := by decide +kernel
theorem dL_areMeans_44 : decode cL_areMeans 44 = .ok (.iload 8, 2) := by decide +kernel
theorem dL_areMeans_46 : decode cL_areMeans 46 = .ok (.ifCond .eq 7, 3) := by decide +kernel
theorem dL_areMeans_49 : decode cL_areMeans 49 = .ok (.iconst 1, 1) := by decide +kernel
theorem dL_areMeans_50 : decode cL_areMeans 50 = .ok (.goto 4, 3) := by decide +kernel
theorem dL_areMeans_53 : decode cL_areMeans 53 = .ok (.iconst 0, 1) := by decide +kernel
theorem dL_areMeans_54 : decode cL_areMeans 54 = .ok (.iadd, 1) := by decide +kernel
theorem dL_areMeans_55 : decode cL_areMeans 55 = .ok (.istore_n 2, 1) := by decide +kernel
theorem dL_areMeans_56 : decode cL_areMeans 56 = .ok (.lload_n 3, 1) := by decide +kernel
theorem dL_areMeans_57 : decode cL_areMeans 57 = .ok (.iload 8, 2) := by decide +kernel
theorem dL_areMeans_59 : decode cL_areMeans 59 = .ok (.ifCond .eq 13, 3) := by decide +kernel
theorem dL_areMeans_62 : decode cL_areMeans 62 = .ok (.aload_n 0, 1) := by decide +kernel
theorem dL_areMeans_63 : decode cL_areMeans 63 = .ok (.iload 7, 2) := by decide +kernel
theorem dL_areMeans_65 : decode cL_areMeans 65 = .ok (.invokevirtual 79, 3) := by decide +kernel
theorem dL_areMeans_68 : decode cL_areMeans 68 = .ok (.i2l, 1) := by decide +kernel
theorem dL_areMeans_69 : decode cL_areMeans 69 = .ok (.goto 4, 3) := by decide +kernel
theorem dL_areMeans_72 : decode cL_areMeans 72 = .ok (.lconst 0, 1) := by decide +kernel
theorem dL_areMeans_73 : decode cL_areMeans 73 = .ok (.ladd, 1) := by decide +kernel
theorem dL_areMeans_74 : decode cL_areMeans 74 = .ok (.lstore_n 3, 1) := by decide +kernel
theorem dL_areMeans_75 : decode cL_areMeans 75 = .ok (.lload 5, 2) := by decide +kernel
theorem dL_areMeans_77 : decode cL_areMeans 77 = .ok (.iload 8, 2) := by decide +kernel
theorem dL_areMeans_79 : decode cL_areMeans 79 = .ok (.ifCond .eq 12, 3) := by decide +kernel
theorem dL_areMeans_82 : decode cL_areMeans 82 = .ok (.aload_n 0, 1) := by decide +kernel
theorem dL_areMeans_83 : decode cL_areMeans 83 = .ok (.iload 7, 2) := by decide +kernel
theorem dL_areMeans_85 : decode cL_areMeans 85 = .ok (.invokevirtual 48, 3) := by decide +kernel
theorem dL_areMeans_88 : decode cL_areMeans 88 = .ok (.goto 4, 3) := by decide +kernel
theorem dL_areMeans_91 : decode cL_areMeans 91 = .ok (.lconst 0, 1) := by decide +kernel
theorem dL_areMeans_92 : decode cL_areMeans 92 = .ok (.ladd, 1) := by decide +kernel
theorem dL_areMeans_93 : decode cL_areMeans 93 = .ok (.lstore 5, 2) := by decide +kernel
theorem dL_areMeans_95 : decode cL_areMeans 95 = .ok (.iinc 7 1, 3) := by decide +kernel
theorem dL_areMeans_98 : decode cL_areMeans 98 = .ok (.goto (-81), 3) := by decide +kernel
theorem dL_areMeans_101 : decode cL_areMeans 101 = .ok (.aload_n 0, 1) := by decide +kernel
theorem dL_areMeans_102 : decode cL_areMeans 102 = .ok (.iload_n 1, 1) := by decide +kernel
theorem dL_areMeans_103 : decode cL_areMeans 103 = .ok (.invokevirtual 18, 3) := by decide +kernel
theorem dL_areMeans_106 : decode cL_areMeans 106 = .ok (.iload_n 2, 1) := by decide +kernel
theorem dL_areMeans_107 : decode cL_areMeans 107 = .ok (.if_icmp .ne 41, 3) := by decide +kernel
theorem dL_areMeans_110 : decode cL_areMeans 110 = .ok (.iload_n 2, 1) := by decide +kernel
theorem dL_areMeans_111 : decode cL_areMeans 111 = .ok (.ifCond .ne 39, 3) := by decide +kernel
theorem dL_areMeans_114 : decode cL_areMeans 114 = .ok (.aload_n 0, 1) := by decide +kernel
theorem dL_areMeans_115 : decode cL_areMeans 115 = .ok (.iload_n 1, 1) := by decide +kernel
theorem dL_areMeans_116 : decode cL_areMeans 116 = .ok (.invokevirtual 22, 3) := by decide +kernel
theorem dL_areMeans_119 : decode cL_areMeans 119 = .ok (.ldc 137, 2) := by decide +kernel
theorem dL_areMeans_121 : decode cL_areMeans 121 = .ok (.if_icmp .ne 27, 3) := by decide +kernel
theorem dL_areMeans_124 : decode cL_areMeans 124 = .ok (.aload_n 0, 1) := by decide +kernel
theorem dL_areMeans_125 : decode cL_areMeans 125 = .ok (.iload_n 1, 1) := by decide +kernel
theorem dL_areMeans_126 : decode cL_areMeans 126 = .ok (.invokevirtual 32, 3) := by decide +kernel
theorem dL_areMeans_129 : decode cL_areMeans 129 = .ok (.ldc2_w 138, 3) := by decide +kernel
theorem dL_areMeans_132 : decode cL_areMeans 132 = .ok (.lcmp, 1) := by decide +kernel
theorem dL_areMeans_133 : decode cL_areMeans 133 = .ok (.ifCond .ne 15, 3) := by decide +kernel
theorem dL_areMeans_136 : decode cL_areMeans 136 = .ok (.aload_n 0, 1) := by decide +kernel
theorem dL_areMeans_137 : decode cL_areMeans 137 = .ok (.iload_n 1, 1) := by decide +kernel
theorem dL_areMeans_138 : decode cL_areMeans 138 = .ok (.bipush 50, 2) := by decide +kernel
theorem dL_areMeans_140 : decode cL_areMeans 140 = .ok (.invokevirtual 134, 3) := by decide +kernel
theorem dL_areMeans_143 : decode cL_areMeans 143 = .ok (.ldc 140, 2) := by decide +kernel
theorem dL_areMeans_145 : decode cL_areMeans 145 = .ok (.if_icmp .eq 5, 3) := by decide +kernel
theorem dL_areMeans_148 : decode cL_areMeans 148 = .ok (.iconst 0, 1) := by decide +kernel
theorem dL_areMeans_149 : decode cL_areMeans 149 = .ok (.ireturn, 1) := by decide +kernel
theorem dL_areMeans_150 : decode cL_areMeans 150 = .ok (.iload_n 2, 1) := by decide +kernel
theorem dL_areMeans_151 : decode cL_areMeans 151 = .ok (.ifCond .le 70, 3) := by decide +kernel
theorem dL_areMeans_154 : decode cL_areMeans 154 = .ok (.aload_n 0, 1) := by decide +kernel
theorem dL_areMeans_155 : decode cL_areMeans 155 = .ok (.iload_n 1, 1) := by decide +kernel
theorem dL_areMeans_156 : decode cL_areMeans 156 = .ok (.invokevirtual 22, 3) := by decide +kernel
theorem dL_areMeans_159 : decode cL_areMeans 159 = .ok (.i2l, 1) := by decide +kernel
theorem dL_areMeans_160 : decode cL_areMeans 160 = .ok (.iload_n 2, 1) := by decide +kernel
theorem dL_areMeans_161 : decode cL_areMeans 161 = .ok (.i2l, 1) := by decide +kernel
theorem dL_areMeans_162 : decode cL_areMeans 162 = .ok (.lmul, 1) := by decide +kernel
theorem dL_areMeans_163 : decode cL_areMeans 163 = .ok (.lload_n 3, 1) := by decide +kernel
theorem dL_areMeans_164 : decode cL_areMeans 164 = .ok (.lsub, 1) := by decide +kernel
theorem dL_areMeans_165 : decode cL_areMeans 165 = .ok (.lstore 7, 2) := by decide +kernel
theorem dL_areMeans_167 : decode cL_areMeans 167 = .ok (.lload 5, 2) := by decide +kernel
theorem dL_areMeans_169 : decode cL_areMeans 169 = .ok (.aload_n 0, 1) := by decide +kernel
theorem dL_areMeans_170 : decode cL_areMeans 170 = .ok (.iload_n 1, 1) := by decide +kernel
theorem dL_areMeans_171 : decode cL_areMeans 171 = .ok (.invokevirtual 32, 3) := by decide +kernel
theorem dL_areMeans_174 : decode cL_areMeans 174 = .ok (.iload_n 2, 1) := by decide +kernel
theorem dL_areMeans_175 : decode cL_areMeans 175 = .ok (.i2l, 1) := by decide +kernel
theorem dL_areMeans_176 : decode cL_areMeans 176 = .ok (.lmul, 1) := by decide +kernel
theorem dL_areMeans_177 : decode cL_areMeans 177 = .ok (.lsub, 1) := by decide +kernel
theorem dL_areMeans_178 : decode cL_areMeans 178 = .ok (.lstore 9, 2) := by decide +kernel
theorem dL_areMeans_180 : decode cL_areMeans 180 = .ok (.lload 7, 2) := by decide +kernel
theorem dL_areMeans_182 : decode cL_areMeans 182 = .ok (.ldc2_w 141, 3) := by decide +kernel
theorem dL_areMeans_185 : decode cL_areMeans 185 = .ok (.iload_n 2, 1) := by decide +kernel
theorem dL_areMeans_186 : decode cL_areMeans 186 = .ok (.i2l, 1) := by decide +kernel
theorem dL_areMeans_187 : decode cL_areMeans 187 = .ok (.lmul, 1) := by decide +kernel
theorem dL_areMeans_188 : decode cL_areMeans 188 = .ok (.lcmp, 1) := by decide +kernel
theorem dL_areMeans_189 : decode cL_areMeans 189 = .ok (.ifCond .lt 30, 3) := by decide +kernel
theorem dL_areMeans_192 : decode cL_areMeans 192 = .ok (.lload 7, 2) := by decide +kernel
theorem dL_areMeans_194 : decode cL_areMeans 194 = .ok (.ldc2_w 143, 3) := by decide +kernel
theorem dL_areMeans_197 : decode cL_areMeans 197 = .ok (.iload_n 2, 1) := by decide +kernel
theorem dL_areMeans_198 : decode cL_areMeans 198 = .ok (.i2l, 1) := by decide +kernel
theorem dL_areMeans_199 : decode cL_areMeans 199 = .ok (.lmul, 1) := by decide +kernel
theorem dL_areMeans_200 : decode cL_areMeans 200 = .ok (.lcmp, 1) := by decide +kernel
theorem dL_areMeans_201 : decode cL_areMeans 201 = .ok (.ifCond .gt 18, 3) := by decide +kernel
theorem dL_areMeans_204 : decode cL_areMeans 204 = .ok (.lload 9, 2) := by decide +kernel
theorem dL_areMeans_206 : decode cL_areMeans 206 = .ok (.lconst 0, 1) := by decide +kernel
theorem dL_areMeans_207 : decode cL_areMeans 207 = .ok (.lcmp, 1) := by decide +kernel
theorem dL_areMeans_208 : decode cL_areMeans 208 = .ok (.ifCond .lt 11, 3) := by decide +kernel
theorem dL_areMeans_211 : decode cL_areMeans 211 = .ok (.lload 9, 2) := by decide +kernel
theorem dL_areMeans_213 : decode cL_areMeans 213 = .ok (.iload_n 2, 1) := by decide +kernel
theorem dL_areMeans_214 : decode cL_areMeans 214 = .ok (.i2l, 1) := by decide +kernel
theorem dL_areMeans_215 : decode cL_areMeans 215 = .ok (.lcmp, 1) := by decide +kernel
theorem dL_areMeans_216 : decode cL_areMeans 216 = .ok (.ifCond .lt 5, 3) := by decide +kernel
theorem dL_areMeans_219 : decode cL_areMeans 219 = .ok (.iconst 0, 1) := by decide +kernel
theorem dL_areMeans_220 : decode cL_areMeans 220 = .ok (.ireturn, 1) := by decide +kernel
theorem dL_areMeans_221 : decode cL_areMeans 221 = .ok (.iinc 1 1, 3) := by decide +kernel
theorem dL_areMeans_224 : decode cL_areMeans 224 = .ok (.goto (-222), 3) := by decide +kernel
theorem dL_areMeans_227 : decode cL_areMeans 227 = .ok (.aload_n 0, 1) := by decide +kernel
theorem dL_areMeans_228 : decode cL_areMeans 228 = .ok (.iconst 0, 1) := by decide +kernel
theorem dL_areMeans_229 : decode cL_areMeans 229 = .ok (.invokevirtual 18, 3) := by decide +kernel
theorem dL_areMeans_232 : decode cL_areMeans 232 = .ok (.aload_n 0, 1) := by decide +kernel
theorem dL_areMeans_233 : decode cL_areMeans 233 = .ok (.iconst 1, 1) := by decide +kernel
theorem dL_areMeans_234 : decode cL_areMeans 234 = .ok (.invokevirtual 18, 3) := by decide +kernel
theorem dL_areMeans_237 : decode cL_areMeans 237 = .ok (.iadd, 1) := by decide +kernel
theorem dL_areMeans_238 : decode cL_areMeans 238 = .ok (.aload_n 0, 1) := by decide +kernel
theorem dL_areMeans_239 : decode cL_areMeans 239 = .ok (.invokevirtual 36, 3) := by decide +kernel
theorem dL_areMeans_242 : decode cL_areMeans 242 = .ok (.if_icmp .ne 7, 3) := by decide +kernel
theorem dL_areMeans_245 : decode cL_areMeans 245 = .ok (.iconst 1, 1) := by decide +kernel
theorem dL_areMeans_246 : decode cL_areMeans 246 = .ok (.goto 4, 3) := by decide +kernel
theorem dL_areMeans_249 : decode cL_areMeans 249 = .ok (.iconst 0, 1) := by decide +kernel
theorem dL_areMeans_250 : decode cL_areMeans 250 = .ok (.ireturn, 1) := by decide +kernel
theorem dL_law_0 : decode cL_law 0 = .ok (.new 11, 3) := by decide +kernel
theorem dL_law_3 : decode cL_law 3 = .ok (.dup, 1) := by decide +kernel
theorem dL_law_4 : decode cL_law 4 = .ok (.invokespecial 145, 3) := by decide +kernel
theorem dL_law_7 : decode cL_law 7 = .ok (.astore_n 1, 1) := by decide +kernel
theorem dL_law_8 : decode cL_law 8 = .ok (.aload_n 0, 1) := by decide +kernel
theorem dL_law_9 : decode cL_law 9 = .ok (.iconst 0, 1) := by decide +kernel
theorem dL_law_10 : decode cL_law 10 = .ok (.invokestatic 146, 3) := by decide +kernel
theorem dL_law_13 : decode cL_law 13 = .ok (.istore_n 2, 1) := by decide +kernel
theorem dL_law_14 : decode cL_law 14 = .ok (.iconst 0, 1) := by decide +kernel
theorem dL_law_15 : decode cL_law 15 = .ok (.istore_n 3, 1) := by decide +kernel
theorem dL_law_16 : decode cL_law 16 = .ok (.iload_n 3, 1) := by decide +kernel
theorem dL_law_17 : decode cL_law 17 = .ok (.iconst 2, 1) := by decide +kernel
theorem dL_law_18 : decode cL_law 18 = .ok (.if_icmp .ge 112, 3) := by decide +kernel
theorem dL_law_21 : decode cL_law 21 = .ok (.aload_n 1, 1) := by decide +kernel
theorem dL_law_22 : decode cL_law 22 = .ok (.iload_n 2, 1) := by decide +kernel
theorem dL_law_23 : decode cL_law 23 = .ok (.iload_n 3, 1) := by decide +kernel
theorem dL_law_24 : decode cL_law 24 = .ok (.ishr, 1) := by decide +kernel
theorem dL_law_25 : decode cL_law 25 = .ok (.iconst 2, 1) := by decide +kernel
theorem dL_law_26 : decode cL_law 26 = .ok (.invokestatic 88, 3) := by decide +kernel
theorem dL_law_29 : decode cL_law 29 = .ok (.iconst 1, 1) := by decide +kernel
theorem dL_law_30 : decode cL_law 30 = .ok (.iload_n 2, 1) := by decide +kernel
theorem dL_law_31 : decode cL_law 31 = .ok (.iconst 4, 1) := by decide +kernel
theorem dL_law_32 : decode cL_law 32 = .ok (.iconst 3, 1) := by decide +kernel
theorem dL_law_33 : decode cL_law 33 = .ok (.iload_n 3, 1) := by decide +kernel
theorem dL_law_34 : decode cL_law 34 = .ok (.imul, 1) := by decide +kernel
theorem dL_law_35 : decode cL_law 35 = .ok (.iadd, 1) := by decide +kernel
theorem dL_law_36 : decode cL_law 36 = .ok (.ishr, 1) := by decide +kernel
theorem dL_law_37 : decode cL_law 37 = .ok (.sipush 600, 3) := by decide +kernel
theorem dL_law_40 : decode cL_law 40 = .ok (.invokestatic 88, 3) := by decide +kernel
theorem dL_law_43 : decode cL_law 43 = .ok (.iadd, 1) := by decide +kernel
theorem dL_law_44 : decode cL_law 44 = .ok (.invokevirtual 118, 3) := by decide +kernel
theorem dL_law_47 : decode cL_law 47 = .ok (.pop, 1) := by decide +kernel
theorem dL_law_48 : decode cL_law 48 = .ok (.iconst 0, 1) := by decide +kernel
theorem dL_law_49 : decode cL_law 49 = .ok (.istore 4, 2) := by decide +kernel
theorem dL_law_51 : decode cL_law 51 = .ok (.iload 4, 2) := by decide +kernel
theorem dL_law_53 : decode cL_law 53 = .ok (.bipush 6, 2) := by decide +kernel
theorem dL_law_55 : decode cL_law 55 = .ok (.if_icmp .ge 59, 3) := by decide +kernel
theorem dL_law_58 : decode cL_law 58 = .ok (.aload_n 1, 1) := by decide +kernel
theorem dL_law_59 : decode cL_law 59 = .ok (.iload 4, 2) := by decide +kernel
theorem dL_law_61 : decode cL_law 61 = .ok (.iconst 1, 1) := by decide +kernel
theorem dL_law_62 : decode cL_law 62 = .ok (.iand, 1) := by decide +kernel
theorem dL_law_63 : decode cL_law 63 = .ok (.aload_n 0, 1) := by decide +kernel
theorem dL_law_64 : decode cL_law 64 = .ok (.bipush 30, 2) := by decide +kernel
theorem dL_law_66 : decode cL_law 66 = .ok (.bipush 6, 2) := by decide +kernel
theorem dL_law_68 : decode cL_law 68 = .ok (.iload_n 3, 1) := by decide +kernel
theorem dL_law_69 : decode cL_law 69 = .ok (.imul, 1) := by decide +kernel
theorem dL_law_70 : decode cL_law 70 = .ok (.iadd, 1) := by decide +kernel
theorem dL_law_71 : decode cL_law 71 = .ok (.iload 4, 2) := by decide +kernel
theorem dL_law_73 : decode cL_law 73 = .ok (.iadd, 1) := by decide +kernel
theorem dL_law_74 : decode cL_law 74 = .ok (.invokestatic 146, 3) := by decide +kernel
theorem dL_law_77 : decode cL_law 77 = .ok (.bipush 21, 2) := by decide +kernel
theorem dL_law_79 : decode cL_law 79 = .ok (.invokestatic 88, 3) := by decide +kernel
theorem dL_law_82 : decode cL_law 82 = .ok (.aload_n 0, 1) := by decide +kernel
theorem dL_law_83 : decode cL_law 83 = .ok (.bipush 30, 2) := by decide +kernel
theorem dL_law_85 : decode cL_law 85 = .ok (.bipush 6, 2) := by decide +kernel
theorem dL_law_87 : decode cL_law 87 = .ok (.iload_n 3, 1) := by decide +kernel
theorem dL_law_88 : decode cL_law 88 = .ok (.imul, 1) := by decide +kernel
theorem dL_law_89 : decode cL_law 89 = .ok (.iadd, 1) := by decide +kernel
theorem dL_law_90 : decode cL_law 90 = .ok (.iload 4, 2) := by decide +kernel
theorem dL_law_92 : decode cL_law 92 = .ok (.iadd, 1) := by decide +kernel
theorem dL_law_93 : decode cL_law 93 = .ok (.invokestatic 146, 3) := by decide +kernel
theorem dL_law_96 : decode cL_law 96 = .ok (.iconst 5, 1) := by decide +kernel
theorem dL_law_97 : decode cL_law 97 = .ok (.ishr, 1) := by decide +kernel
theorem dL_law_98 : decode cL_law 98 = .ok (.sipush 3000, 3) := by decide +kernel
theorem dL_law_101 : decode cL_law 101 = .ok (.invokestatic 88, 3) := by decide +kernel
theorem dL_law_104 : decode cL_law 104 = .ok (.invokevirtual 121, 3) := by decide +kernel
theorem dL_law_107 : decode cL_law 107 = .ok (.pop, 1) := by decide +kernel
theorem dL_law_108 : decode cL_law 108 = .ok (.iinc 4 1, 3) := by decide +kernel
theorem dL_law_111 : decode cL_law 111 = .ok (.goto (-60), 3) := by decide +kernel
theorem dL_law_114 : decode cL_law 114 = .ok (.aload_n 1, 1) := by decide +kernel
theorem dL_law_115 : decode cL_law 115 = .ok (.invokevirtual 124, 3) := by decide +kernel
theorem dL_law_118 : decode cL_law 118 = .ok (.iload_n 3, 1) := by decide +kernel
theorem dL_law_119 : decode cL_law 119 = .ok (.if_icmp .eq 5, 3) := by decide +kernel
theorem dL_law_122 : decode cL_law 122 = .ok (.iconst 0, 1) := by decide +kernel
theorem dL_law_123 : decode cL_law 123 = .ok (.ireturn, 1) := by decide +kernel
theorem dL_law_124 : decode cL_law 124 = .ok (.iinc 3 1, 3) := by decide +kernel
theorem dL_law_127 : decode cL_law 127 = .ok (.goto (-111), 3) := by decide +kernel
theorem dL_law_130 : decode cL_law 130 = .ok (.iconst 0, 1) := by decide +kernel
theorem dL_law_131 : decode cL_law 131 = .ok (.istore_n 3, 1) := by decide +kernel
theorem dL_law_132 : decode cL_law 132 = .ok (.iload_n 3, 1) := by decide +kernel
theorem dL_law_133 : decode cL_law 133 = .ok (.bipush 22, 2) := by decide +kernel
theorem dL_law_135 : decode cL_law 135 = .ok (.if_icmp .ge 133, 3) := by decide +kernel
theorem dL_law_138 : decode cL_law 138 = .ok (.aload_n 0, 1) := by decide +kernel
theorem dL_law_139 : decode cL_law 139 = .ok (.iconst 1, 1) := by decide +kernel
theorem dL_law_140 : decode cL_law 140 = .ok (.iload_n 3, 1) := by decide +kernel
theorem dL_law_141 : decode cL_law 141 = .ok (.iadd, 1) := by decide +kernel
theorem dL_law_142 : decode cL_law 142 = .ok (.invokestatic 146, 3) := by decide +kernel
theorem dL_law_145 : decode cL_law 145 = .ok (.istore 4, 2) := by decide +kernel
theorem dL_law_147 : decode cL_law 147 = .ok (.aload_n 1, 1) := by decide +kernel
theorem dL_law_148 : decode cL_law 148 = .ok (.invokestatic 150, 3) := by decide +kernel
theorem dL_law_151 : decode cL_law 151 = .ok (.lstore 5, 2) := by decide +kernel
theorem dL_law_153 : decode cL_law 153 = .ok (.aload_n 1, 1) := by decide +kernel
theorem dL_law_154 : decode cL_law 154 = .ok (.iload 4, 2) := by decide +kernel
theorem dL_law_156 : decode cL_law 156 = .ok (.invokestatic 154, 3) := by decide +kernel
theorem dL_law_159 : decode cL_law 159 = .ok (.istore 7, 2) := by decide +kernel
theorem dL_law_161 : decode cL_law 161 = .ok (.iload 7, 2) := by decide +kernel
theorem dL_law_163 : decode cL_law 163 = .ok (.ldc 158, 2) := by decide +kernel
theorem dL_law_165 : decode cL_law 165 = .ok (.if_icmp .ge 15, 3) := by decide +kernel
theorem dL_law_168 : decode cL_law 168 = .ok (.aload_n 1, 1) := by decide +kernel
theorem dL_law_169 : decode cL_law 169 = .ok (.invokestatic 150, 3) := by decide +kernel
theorem dL_law_172 : decode cL_law 172 = .ok (.lload 5, 2) := by decide +kernel
theorem dL_law_174 : decode cL_law 174 = .ok (.lcmp, 1) := by decide +kernel
theorem dL_law_175 : decode cL_law 175 = .ok (.ifCond .eq 5, 3) := by decide +kernel
theorem dL_law_178 : decode cL_law 178 = .ok (.iconst 0, 1) := by decide +kernel
theorem dL_law_179 : decode cL_law 179 = .ok (.ireturn, 1) := by decide +kernel
theorem dL_law_180 : decode cL_law 180 = .ok (.iload 7, 2) := by decide +kernel
theorem dL_law_182 : decode cL_law 182 = .ok (.ldc 158, 2) := by decide +kernel
theorem dL_law_184 : decode cL_law 184 = .ok (.if_icmp .le 32, 3) := by decide +kernel
theorem dL_law_187 : decode cL_law 187 = .ok (.iload 4, 2) := by decide +kernel
theorem dL_law_189 : decode cL_law 189 = .ok (.bipush 28, 2) := by decide +kernel
theorem dL_law_191 : decode cL_law 191 = .ok (.ishr, 1) := by decide +kernel
theorem dL_law_192 : decode cL_law 192 = .ok (.iconst 3, 1) := by decide +kernel
theorem dL_law_193 : decode cL_law 193 = .ok (.iand, 1) := by decide +kernel
theorem dL_law_194 : decode cL_law 194 = .ok (.ifCond .ne 22, 3) := by decide +kernel
theorem dL_law_197 : decode cL_law 197 = .ok (.aload_n 1, 1) := by decide +kernel
theorem dL_law_198 : decode cL_law 198 = .ok (.invokevirtual 159, 3) := by decide +kernel
theorem dL_law_201 : decode cL_law 201 = .ok (.ifCond .lt 13, 3) := by decide +kernel
theorem dL_law_204 : decode cL_law 204 = .ok (.aload_n 1, 1) := by decide +kernel
theorem dL_law_205 : decode cL_law 205 = .ok (.invokestatic 150, 3) := by decide +kernel
theorem dL_law_208 : decode cL_law 208 = .ok (.lload 5, 2) := by decide +kernel
theorem dL_law_210 : decode cL_law 210 = .ok (.lcmp, 1) := by decide +kernel
theorem dL_law_211 : decode cL_law 211 = .ok (.ifCond .eq 5, 3) := by decide +kernel
theorem dL_law_214 : decode cL_law 214 = .ok (.iconst 0, 1) := by decide +kernel
theorem dL_law_215 : decode cL_law 215 = .ok (.ireturn, 1) := by decide +kernel
theorem dL_law_216 : decode cL_law 216 = .ok (.iload_n 3, 1) := by decide +kernel
theorem dL_law_217 : decode cL_law 217 = .ok (.iconst 3, 1) := by decide +kernel
theorem dL_law_218 : decode cL_law 218 = .ok (.irem, 1) := by decide +kernel
theorem dL_law_219 : decode cL_law 219 = .ok (.iconst 1, 1) := by decide +kernel
theorem dL_law_220 : decode cL_law 220 = .ok (.if_icmp .ne 42, 3) := by decide +kernel
theorem dL_law_223 : decode cL_law 223 = .ok (.aload_n 1, 1) := by decide +kernel
theorem dL_law_224 : decode cL_law 224 = .ok (.invokestatic 162, 3) := by decide +kernel
theorem dL_law_227 : decode cL_law 227 = .ok (.ifCond .eq 33, 3) := by decide +kernel
theorem dL_law_230 : decode cL_law 230 = .ok (.aload_n 1, 1) := by decide +kernel
theorem dL_law_231 : decode cL_law 231 = .ok (.invokevirtual 36, 3) := by decide +kernel
theorem dL_law_234 : decode cL_law 234 = .ok (.ifCond .le 28, 3) := by decide +kernel
theorem dL_law_237 : decode cL_law 237 = .ok (.aload_n 1, 1) := by decide +kernel
theorem dL_law_238 : decode cL_law 238 = .ok (.iload 4, 2) := by decide +kernel
theorem dL_law_240 : decode cL_law 240 = .ok (.bipush 9, 2) := by decide +kernel
theorem dL_law_242 : decode cL_law 242 = .ok (.ishr, 1) := by decide +kernel
theorem dL_law_243 : decode cL_law 243 = .ok (.aload_n 1, 1) := by decide +kernel
theorem dL_law_244 : decode cL_law 244 = .ok (.invokevirtual 36, 3) := by decide +kernel
theorem dL_law_247 : decode cL_law 247 = .ok (.invokestatic 88, 3) := by decide +kernel
theorem dL_law_250 : decode cL_law 250 = .ok (.iload 4, 2) := by decide +kernel
theorem dL_law_252 : decode cL_law 252 = .ok (.iconst 5, 1) := by decide +kernel
theorem dL_law_253 : decode cL_law 253 = .ok (.ishr, 1) := by decide +kernel
theorem dL_law_254 : decode cL_law 254 = .ok (.invokestatic 166, 3) := by decide +kernel
theorem dL_law_257 : decode cL_law 257 = .ok (.ifCond .ne 5, 3) := by decide +kernel
theorem dL_law_260 : decode cL_law 260 = .ok (.iconst 0, 1) := by decide +kernel
theorem dL_law_261 : decode cL_law 261 = .ok (.ireturn, 1) := by decide +kernel
theorem dL_law_262 : decode cL_law 262 = .ok (.iinc 3 1, 3) := by decide +kernel
theorem dL_law_265 : decode cL_law 265 = .ok (.goto (-133), 3) := by decide +kernel
theorem dL_law_268 : decode cL_law 268 = .ok (.aload_n 1, 1) := by decide +kernel
theorem dL_law_269 : decode cL_law 269 = .ok (.invokestatic 150, 3) := by decide +kernel
theorem dL_law_272 : decode cL_law 272 = .ok (.lstore_n 3, 1) := by decide +kernel
theorem dL_law_273 : decode cL_law 273 = .ok (.iload_n 2, 1) := by decide +kernel
theorem dL_law_274 : decode cL_law 274 = .ok (.bipush 9, 2) := by decide +kernel
theorem dL_law_276 : decode cL_law 276 = .ok (.ishr, 1) := by decide +kernel
theorem dL_law_277 : decode cL_law 277 = .ok (.iconst 2, 1) := by decide +kernel
theorem dL_law_278 : decode cL_law 278 = .ok (.invokestatic 88, 3) := by decide +kernel
theorem dL_law_281 : decode cL_law 281 = .ok (.istore 5, 2) := by decide +kernel
theorem dL_law_283 : decode cL_law 283 = .ok (.aload_n 1, 1) := by decide +kernel
theorem dL_law_284 : decode cL_law 284 = .ok (.iload 5, 2) := by decide +kernel
theorem dL_law_286 : decode cL_law 286 = .ok (.bipush 60, 2) := by decide +kernel
theorem dL_law_288 : decode cL_law 288 = .ok (.iconst 0, 1) := by decide +kernel
theorem dL_law_289 : decode cL_law 289 = .ok (.iconst 0, 1) := by decide +kernel
theorem dL_law_290 : decode cL_law 290 = .ok (.invokevirtual 127, 3) := by decide +kernel
theorem dL_law_293 : decode cL_law 293 = .ok (.istore 6, 2) := by decide +kernel
theorem dL_law_295 : decode cL_law 295 = .ok (.iload 6, 2) := by decide +kernel
theorem dL_law_297 : decode cL_law 297 = .ok (.ifCond .lt 25, 3) := by decide +kernel
theorem dL_law_300 : decode cL_law 300 = .ok (.aload_n 1, 1) := by decide +kernel
theorem dL_law_301 : decode cL_law 301 = .ok (.iload 6, 2) := by decide +kernel
theorem dL_law_303 : decode cL_law 303 = .ok (.invokevirtual 79, 3) := by decide +kernel
theorem dL_law_306 : decode cL_law 306 = .ok (.aload_n 1, 1) := by decide +kernel
theorem dL_law_307 : decode cL_law 307 = .ok (.iload 5, 2) := by decide +kernel
theorem dL_law_309 : decode cL_law 309 = .ok (.invokevirtual 27, 3) := by decide +kernel
theorem dL_law_312 : decode cL_law 312 = .ok (.if_icmp .ne 31, 3) := by decide +kernel
theorem dL_law_315 : decode cL_law 315 = .ok (.aload_n 1, 1) := by decide +kernel
theorem dL_law_316 : decode cL_law 316 = .ok (.invokevirtual 159, 3) := by decide +kernel
theorem dL_law_319 : decode cL_law 319 = .ok (.ifCond .lt 24, 3) := by decide +kernel
theorem dL_law_322 : decode cL_law 322 = .ok (.iload 6, 2) := by decide +kernel
theorem dL_law_324 : decode cL_law 324 = .ok (.ifCond .ge 21, 3) := by decide +kernel
theorem dL_law_327 : decode cL_law 327 = .ok (.iload 6, 2) := by decide +kernel
theorem dL_law_329 : decode cL_law 329 = .ok (.ldc 170, 2) := by decide +kernel
theorem dL_law_331 : decode cL_law 331 = .ok (.if_icmp .ne 12, 3) := by decide +kernel
theorem dL_law_334 : decode cL_law 334 = .ok (.aload_n 1, 1) := by decide +kernel
theorem dL_law_335 : decode cL_law 335 = .ok (.invokevirtual 36, 3) := by decide +kernel
theorem dL_law_338 : decode cL_law 338 = .ok (.bipush 10, 2) := by decide +kernel
theorem dL_law_340 : decode cL_law 340 = .ok (.if_icmp .eq 5, 3) := by decide +kernel
theorem dL_law_343 : decode cL_law 343 = .ok (.iconst 0, 1) := by decide +kernel
theorem dL_law_344 : decode cL_law 344 = .ok (.ireturn, 1) := by decide +kernel
theorem dL_law_345 : decode cL_law 345 = .ok (.aload_n 1, 1) := by decide +kernel
theorem dL_law_346 : decode cL_law 346 = .ok (.invokestatic 150, 3) := by decide +kernel
theorem dL_law_349 : decode cL_law 349 = .ok (.lload_n 3, 1) := by decide +kernel
theorem dL_law_350 : decode cL_law 350 = .ok (.lcmp, 1) := by decide +kernel
theorem dL_law_351 : decode cL_law 351 = .ok (.ifCond .ne 69, 3) := by decide +kernel
theorem dL_law_354 : decode cL_law 354 = .ok (.aload_n 1, 1) := by decide +kernel
theorem dL_law_355 : decode cL_law 355 = .ok (.invokevirtual 171, 3) := by decide +kernel
theorem dL_law_358 : decode cL_law 358 = .ok (.iconst 5, 1) := by decide +kernel
theorem dL_law_359 : decode cL_law 359 = .ok (.if_icmp .ge 61, 3) := by decide +kernel
theorem dL_law_362 : decode cL_law 362 = .ok (.aload_n 1, 1) := by decide +kernel
theorem dL_law_363 : decode cL_law 363 = .ok (.bipush 10, 2) := by decide +kernel
theorem dL_law_365 : decode cL_law 365 = .ok (.iconst 0, 1) := by decide +kernel
theorem dL_law_366 : decode cL_law 366 = .ok (.iconst 0, 1) := by decide +kernel
theorem dL_law_367 : decode cL_law 367 = .ok (.invokevirtual 57, 3) := by decide +kernel
theorem dL_law_370 : decode cL_law 370 = .ok (.ldc 174, 2) := by decide +kernel
theorem dL_law_372 : decode cL_law 372 = .ok (.if_icmp .ne 48, 3) := by decide +kernel
theorem dL_law_375 : decode cL_law 375 = .ok (.aload_n 1, 1) := by decide +kernel
theorem dL_law_376 : decode cL_law 376 = .ok (.iconst 0, 1) := by decide +kernel
theorem dL_law_377 : decode cL_law 377 = .ok (.invokevirtual 96, 3) := by decide +kernel
theorem dL_law_380 : decode cL_law 380 = .ok (.ldc 174, 2) := by decide +kernel
theorem dL_law_382 : decode cL_law 382 = .ok (.if_icmp .ne 38, 3) := by decide +kernel
theorem dL_law_385 : decode cL_law 385 = .ok (.aload_n 1, 1) := by decide +kernel
theorem dL_law_386 : decode cL_law 386 = .ok (.iconst 0, 1) := by decide +kernel
theorem dL_law_387 : decode cL_law 387 = .ok (.iconst 4, 1) := by decide +kernel
theorem dL_law_388 : decode cL_law 388 = .ok (.invokevirtual 64, 3) := by decide +kernel
theorem dL_law_391 : decode cL_law 391 = .ok (.ldc 174, 2) := by decide +kernel
theorem dL_law_393 : decode cL_law 393 = .ok (.if_icmp .ne 27, 3) := by decide +kernel
theorem dL_law_396 : decode cL_law 396 = .ok (.aload_n 1, 1) := by decide +kernel
theorem dL_law_397 : decode cL_law 397 = .ok (.iconst 2, 1) := by decide +kernel
theorem dL_law_398 : decode cL_law 398 = .ok (.iconst 0, 1) := by decide +kernel
theorem dL_law_399 : decode cL_law 399 = .ok (.invokevirtual 10, 3) := by decide +kernel
theorem dL_law_402 : decode cL_law 402 = .ok (.ldc 174, 2) := by decide +kernel
theorem dL_law_404 : decode cL_law 404 = .ok (.if_icmp .ne 16, 3) := by decide +kernel
theorem dL_law_407 : decode cL_law 407 = .ok (.aload_n 1, 1) := by decide +kernel
theorem dL_law_408 : decode cL_law 408 = .ok (.invokestatic 150, 3) := by decide +kernel
theorem dL_law_411 : decode cL_law 411 = .ok (.lload_n 3, 1) := by decide +kernel
theorem dL_law_412 : decode cL_law 412 = .ok (.lcmp, 1) := by decide +kernel
theorem dL_law_413 : decode cL_law 413 = .ok (.ifCond .ne 7, 3) := by decide +kernel
theorem dL_law_416 : decode cL_law 416 = .ok (.iconst 1, 1) := by decide +kernel
theorem dL_law_417 : decode cL_law 417 = .ok (.goto 4, 3) := by decide +kernel
theorem dL_law_420 : decode cL_law 420 = .ok (.iconst 0, 1) := by decide +kernel
theorem dL_law_421 : decode cL_law 421 = .ok (.ireturn, 1) := by decide +kernel
