theorem dX8_tell_8 : decode cX8_tell 8 = .ok (.invokestatic 164, 3) := by decide +kernel
theorem dX8_tell_11 : decode cX8_tell 11 = .ok (.ifCond .eq 25, 3) := by decide +kernel
theorem dX8_tell_14 : decode cX8_tell 14 = .ok (.iload_n 1, 1) := by decide +kernel
theorem dX8_tell_15 : decode cX8_tell 15 = .ok (.iload_n 2, 1) := by decide +kernel
theorem dX8_tell_16 : decode cX8_tell 16 = .ok (.if_icmp .eq 20, 3) := by decide +kernel
theorem dX8_tell_19 : decode cX8_tell 19 = .ok (.iload 4, 2) := by decide +kernel
theorem dX8_tell_21 : decode cX8_tell 21 = .ok (.i2l, 1) := by decide +kernel
theorem dX8_tell_22 : decode cX8_tell 22 = .ok (.lconst 0, 1) := by decide +kernel
theorem dX8_tell_23 : decode cX8_tell 23 = .ok (.ldc2_w 105, 3) := by decide +kernel
theorem dX8_tell_26 : decode cX8_tell 26 = .ok (.invokestatic 99, 3) := by decide +kernel
theorem dX8_tell_29 : decode cX8_tell 29 = .ok (.ifCond .eq 7, 3) := by decide +kernel
theorem dX8_tell_32 : decode cX8_tell 32 = .ok (.iconst 1, 1) := by decide +kernel
theorem dX8_tell_33 : decode cX8_tell 33 = .ok (.goto 4, 3) := by decide +kernel
theorem dX8_tell_36 : decode cX8_tell 36 = .ok (.iconst 0, 1) := by decide +kernel
theorem dX8_tell_37 : decode cX8_tell 37 = .ok (.istore 9, 2) := by decide +kernel
theorem dX8_tell_39 : decode cX8_tell 39 = .ok (.iload 5, 2) := by decide +kernel
theorem dX8_tell_41 : decode cX8_tell 41 = .ok (.i2l, 1) := by decide +kernel
theorem dX8_tell_42 : decode cX8_tell 42 = .ok (.lconst 0, 1) := by decide +kernel
theorem dX8_tell_43 : decode cX8_tell 43 = .ok (.ldc2_w 176, 3) := by decide +kernel
theorem dX8_tell_46 : decode cX8_tell 46 = .ok (.invokestatic 99, 3) := by decide +kernel
theorem dX8_tell_49 : decode cX8_tell 49 = .ok (.ifCond .eq 28, 3) := by decide +kernel
theorem dX8_tell_52 : decode cX8_tell 52 = .ok (.iload 6, 2) := by decide +kernel
theorem dX8_tell_54 : decode cX8_tell 54 = .ok (.i2l, 1) := by decide +kernel
theorem dX8_tell_55 : decode cX8_tell 55 = .ok (.lconst 0, 1) := by decide +kernel
theorem dX8_tell_56 : decode cX8_tell 56 = .ok (.ldc2_w 170, 3) := by decide +kernel
theorem dX8_tell_59 : decode cX8_tell 59 = .ok (.invokestatic 99, 3) := by decide +kernel
theorem dX8_tell_62 : decode cX8_tell 62 = .ok (.ifCond .eq 15, 3) := by decide +kernel
theorem dX8_tell_65 : decode cX8_tell 65 = .ok (.iload 5, 2) := by decide +kernel
theorem dX8_tell_67 : decode cX8_tell 67 = .ok (.iload 6, 2) := by decide +kernel
theorem dX8_tell_69 : decode cX8_tell 69 = .ok (.iadd, 1) := by decide +kernel
theorem dX8_tell_70 : decode cX8_tell 70 = .ok (.ifCond .le 7, 3) := by decide +kernel
theorem dX8_tell_73 : decode cX8_tell 73 = .ok (.iconst 1, 1) := by decide +kernel
theorem dX8_tell_74 : decode cX8_tell 74 = .ok (.goto 4, 3) := by decide +kernel
theorem dX8_tell_77 : decode cX8_tell 77 = .ok (.iconst 0, 1) := by decide +kernel
theorem dX8_tell_78 : decode cX8_tell 78 = .ok (.istore 10, 2) := by decide +kernel
theorem dX8_tell_80 : decode cX8_tell 80 = .ok (.aload_n 0, 1) := by decide +kernel
theorem dX8_tell_81 : decode cX8_tell 81 = .ok (.iload 9, 2) := by decide +kernel
theorem dX8_tell_83 : decode cX8_tell 83 = .ok (.ifCond .eq 40, 3) := by decide +kernel
theorem dX8_tell_86 : decode cX8_tell 86 = .ok (.iload 10, 2) := by decide +kernel
theorem dX8_tell_88 : decode cX8_tell 88 = .ok (.ifCond .eq 35, 3) := by decide +kernel
theorem dX8_tell_91 : decode cX8_tell 91 = .ok (.iload 7, 2) := by decide +kernel
theorem dX8_tell_93 : decode cX8_tell 93 = .ok (.i2l, 1) := by decide +kernel
theorem dX8_tell_94 : decode cX8_tell 94 = .ok (.lconst 0, 1) := by decide +kernel
theorem dX8_tell_95 : decode cX8_tell 95 = .ok (.aload_n 0, 1) := by decide +kernel
theorem dX8_tell_96 : decode cX8_tell 96 = .ok (.getfield 129, 3) := by decide +kernel
theorem dX8_tell_99 : decode cX8_tell 99 = .ok (.i2l, 1) := by decide +kernel
theorem dX8_tell_100 : decode cX8_tell 100 = .ok (.invokestatic 99, 3) := by decide +kernel
theorem dX8_tell_103 : decode cX8_tell 103 = .ok (.ifCond .eq 20, 3) := by decide +kernel
theorem dX8_tell_106 : decode cX8_tell 106 = .ok (.iload 8, 2) := by decide +kernel
theorem dX8_tell_108 : decode cX8_tell 108 = .ok (.i2l, 1) := by decide +kernel
theorem dX8_tell_109 : decode cX8_tell 109 = .ok (.lconst 0, 1) := by decide +kernel
theorem dX8_tell_110 : decode cX8_tell 110 = .ok (.ldc2_w 178, 3) := by decide +kernel
theorem dX8_tell_113 : decode cX8_tell 113 = .ok (.invokestatic 99, 3) := by decide +kernel
theorem dX8_tell_116 : decode cX8_tell 116 = .ok (.ifCond .eq 7, 3) := by decide +kernel
theorem dX8_tell_119 : decode cX8_tell 119 = .ok (.iconst 0, 1) := by decide +kernel
theorem dX8_tell_120 : decode cX8_tell 120 = .ok (.goto 4, 3) := by decide +kernel
theorem dX8_tell_123 : decode cX8_tell 123 = .ok (.iconst 1, 1) := by decide +kernel
theorem dX8_tell_124 : decode cX8_tell 124 = .ok (.putfield 93, 3) := by decide +kernel
theorem dX8_tell_127 : decode cX8_tell 127 = .ok (.aload_n 0, 1) := by decide +kernel
theorem dX8_tell_128 : decode cX8_tell 128 = .ok (.getfield 93, 3) := by decide +kernel
theorem dX8_tell_131 : decode cX8_tell 131 = .ok (.ifCond .le 5, 3) := by decide +kernel
theorem dX8_tell_134 : decode cX8_tell 134 = .ok (.iconst 0, 1) := by decide +kernel
theorem dX8_tell_135 : decode cX8_tell 135 = .ok (.ireturn, 1) := by decide +kernel
theorem dX8_tell_136 : decode cX8_tell 136 = .ok (.aload_n 0, 1) := by decide +kernel
theorem dX8_tell_137 : decode cX8_tell 137 = .ok (.getfield 90, 3) := by decide +kernel
theorem dX8_tell_140 : decode cX8_tell 140 = .ok (.iconst 0, 1) := by decide +kernel
theorem dX8_tell_141 : decode cX8_tell 141 = .ok (.iload_n 3, 1) := by decide +kernel
theorem dX8_tell_142 : decode cX8_tell 142 = .ok (.ifCond .eq 7, 3) := by decide +kernel
theorem dX8_tell_145 : decode cX8_tell 145 = .ok (.iload_n 1, 1) := by decide +kernel
theorem dX8_tell_146 : decode cX8_tell 146 = .ok (.goto 4, 3) := by decide +kernel
theorem dX8_tell_149 : decode cX8_tell 149 = .ok (.iload_n 2, 1) := by decide +kernel
theorem dX8_tell_150 : decode cX8_tell 150 = .ok (.iastore, 1) := by decide +kernel
theorem dX8_tell_151 : decode cX8_tell 151 = .ok (.aload_n 0, 1) := by decide +kernel
theorem dX8_tell_152 : decode cX8_tell 152 = .ok (.getfield 90, 3) := by decide +kernel
theorem dX8_tell_155 : decode cX8_tell 155 = .ok (.iconst 1, 1) := by decide +kernel
theorem dX8_tell_156 : decode cX8_tell 156 = .ok (.iload_n 3, 1) := by decide +kernel
theorem dX8_tell_157 : decode cX8_tell 157 = .ok (.ifCond .eq 7, 3) := by decide +kernel
theorem dX8_tell_160 : decode cX8_tell 160 = .ok (.iload_n 2, 1) := by decide +kernel
theorem dX8_tell_161 : decode cX8_tell 161 = .ok (.goto 4, 3) := by decide +kernel
theorem dX8_tell_164 : decode cX8_tell 164 = .ok (.iload_n 1, 1) := by decide +kernel
theorem dX8_tell_165 : decode cX8_tell 165 = .ok (.iastore, 1) := by decide +kernel
theorem dX8_tell_166 : decode cX8_tell 166 = .ok (.aload_n 0, 1) := by decide +kernel
theorem dX8_tell_167 : decode cX8_tell 167 = .ok (.getfield 90, 3) := by decide +kernel
theorem dX8_tell_170 : decode cX8_tell 170 = .ok (.iconst 2, 1) := by decide +kernel
theorem dX8_tell_171 : decode cX8_tell 171 = .ok (.iload 4, 2) := by decide +kernel
theorem dX8_tell_173 : decode cX8_tell 173 = .ok (.iastore, 1) := by decide +kernel
theorem dX8_tell_174 : decode cX8_tell 174 = .ok (.aload_n 0, 1) := by decide +kernel
theorem dX8_tell_175 : decode cX8_tell 175 = .ok (.getfield 90, 3) := by decide +kernel
theorem dX8_tell_178 : decode cX8_tell 178 = .ok (.iconst 3, 1) := by decide +kernel
theorem dX8_tell_179 : decode cX8_tell 179 = .ok (.iload 5, 2) := by decide +kernel
theorem dX8_tell_181 : decode cX8_tell 181 = .ok (.iastore, 1) := by decide +kernel
theorem dX8_tell_182 : decode cX8_tell 182 = .ok (.aload_n 0, 1) := by decide +kernel
theorem dX8_tell_183 : decode cX8_tell 183 = .ok (.getfield 90, 3) := by decide +kernel
theorem dX8_tell_186 : decode cX8_tell 186 = .ok (.iconst 4, 1) := by decide +kernel
theorem dX8_tell_187 : decode cX8_tell 187 = .ok (.iload 6, 2) := by decide +kernel
theorem dX8_tell_189 : decode cX8_tell 189 = .ok (.iastore, 1) := by decide +kernel
theorem dX8_tell_190 : decode cX8_tell 190 = .ok (.aload_n 0, 1) := by decide +kernel
theorem dX8_tell_191 : decode cX8_tell 191 = .ok (.getfield 90, 3) := by decide +kernel
theorem dX8_tell_194 : decode cX8_tell 194 = .ok (.iconst 5, 1) := by decide +kernel
theorem dX8_tell_195 : decode cX8_tell 195 = .ok (.iload 7, 2) := by decide +kernel
theorem dX8_tell_197 : decode cX8_tell 197 = .ok (.iastore, 1) := by decide +kernel
theorem dX8_tell_198 : decode cX8_tell 198 = .ok (.aload_n 0, 1) := by decide +kernel
theorem dX8_tell_199 : decode cX8_tell 199 = .ok (.getfield 90, 3) := by decide +kernel
theorem dX8_tell_202 : decode cX8_tell 202 = .ok (.bipush 6, 2) := by decide +kernel
theorem dX8_tell_204 : decode cX8_tell 204 = .ok (.iload 8, 2) := by decide +kernel
theorem dX8_tell_206 : decode cX8_tell 206 = .ok (.iastore, 1) := by decide +kernel
theorem dX8_tell_207 : decode cX8_tell 207 = .ok (.aload_n 0, 1) := by decide +kernel
theorem dX8_tell_208 : decode cX8_tell 208 = .ok (.iload_n 2, 1) := by decide +kernel
theorem dX8_tell_209 : decode cX8_tell 209 = .ok (.invokevirtual 180, 3) := by decide +kernel
theorem dX8_tell_212 : decode cX8_tell 212 = .ok (.istore 11, 2) := by decide +kernel
theorem dX8_tell_214 : decode cX8_tell 214 = .ok (.iload 11, 2) := by decide +kernel
theorem dX8_tell_216 : decode cX8_tell 216 = .ok (.ifCond .lt 38, 3) := by decide +kernel
theorem dX8_tell_219 : decode cX8_tell 219 = .ok (.aload_n 0, 1) := by decide +kernel
theorem dX8_tell_220 : decode cX8_tell 220 = .ok (.getfield 48, 3) := by decide +kernel
theorem dX8_tell_223 : decode cX8_tell 223 = .ok (.iload 11, 2) := by decide +kernel
theorem dX8_tell_225 : decode cX8_tell 225 = .ok (.iconst 1, 1) := by decide +kernel
theorem dX8_tell_226 : decode cX8_tell 226 = .ok (.iastore, 1) := by decide +kernel
theorem dX8_tell_227 : decode cX8_tell 227 = .ok (.aload_n 0, 1) := by decide +kernel
theorem dX8_tell_228 : decode cX8_tell 228 = .ok (.getfield 51, 3) := by decide +kernel
theorem dX8_tell_231 : decode cX8_tell 231 = .ok (.iload 11, 2) := by decide +kernel
theorem dX8_tell_233 : decode cX8_tell 233 = .ok (.aload_n 0, 1) := by decide +kernel
theorem dX8_tell_234 : decode cX8_tell 234 = .ok (.iload 7, 2) := by decide +kernel
theorem dX8_tell_236 : decode cX8_tell 236 = .ok (.iload 8, 2) := by decide +kernel
theorem dX8_tell_238 : decode cX8_tell 238 = .ok (.invokevirtual 183, 3) := by decide +kernel
theorem dX8_tell_241 : decode cX8_tell 241 = .ok (.iastore, 1) := by decide +kernel
theorem dX8_tell_242 : decode cX8_tell 242 = .ok (.aload_n 0, 1) := by decide +kernel
theorem dX8_tell_243 : decode cX8_tell 243 = .ok (.getfield 69, 3) := by decide +kernel
theorem dX8_tell_246 : decode cX8_tell 246 = .ok (.iload 11, 2) := by decide +kernel
theorem dX8_tell_248 : decode cX8_tell 248 = .ok (.iload 11, 2) := by decide +kernel
theorem dX8_tell_250 : decode cX8_tell 250 = .ok (.iastore, 1) := by decide +kernel
theorem dX8_tell_251 : decode cX8_tell 251 = .ok (.iload 11, 2) := by decide +kernel
theorem dX8_tell_253 : decode cX8_tell 253 = .ok (.ireturn, 1) := by decide +kernel
theorem dX8_tell_254 : decode cX8_tell 254 = .ok (.aload_n 0, 1) := by decide +kernel
theorem dX8_tell_255 : decode cX8_tell 255 = .ok (.aload_n 0, 1) := by decide +kernel
theorem dX8_tell_256 : decode cX8_tell 256 = .ok (.getfield 107, 3) := by decide +kernel
theorem dX8_tell_259 : decode cX8_tell 259 = .ok (.sipush 150, 3) := by decide +kernel
theorem dX8_tell_262 : decode cX8_tell 262 = .ok (.if_icmp .ne 7, 3) := by decide +kernel
theorem dX8_tell_265 : decode cX8_tell 265 = .ok (.iconst 2, 1) := by decide +kernel
theorem dX8_tell_266 : decode cX8_tell 266 = .ok (.goto 4, 3) := by decide +kernel
theorem dX8_tell_269 : decode cX8_tell 269 = .ok (.iconst 0, 1) := by decide +kernel
theorem dX8_tell_270 : decode cX8_tell 270 = .ok (.putfield 93, 3) := by decide +kernel
theorem dX8_tell_273 : decode cX8_tell 273 = .ok (.aload_n 0, 1) := by decide +kernel
theorem dX8_tell_274 : decode cX8_tell 274 = .ok (.getfield 93, 3) := by decide +kernel
theorem dX8_tell_277 : decode cX8_tell 277 = .ok (.ifCond .le 5, 3) := by decide +kernel
theorem dX8_tell_280 : decode cX8_tell 280 = .ok (.iconst 0, 1) := by decide +kernel
theorem dX8_tell_281 : decode cX8_tell 281 = .ok (.ireturn, 1) := by decide +kernel
theorem dX8_tell_282 : decode cX8_tell 282 = .ok (.aload_n 0, 1) := by decide +kernel
theorem dX8_tell_283 : decode cX8_tell 283 = .ok (.iload_n 1, 1) := by decide +kernel
theorem dX8_tell_284 : decode cX8_tell 284 = .ok (.invokevirtual 186, 3) := by decide +kernel
theorem dX8_tell_287 : decode cX8_tell 287 = .ok (.aload_n 0, 1) := by decide +kernel
theorem dX8_tell_288 : decode cX8_tell 288 = .ok (.getfield 107, 3) := by decide +kernel
theorem dX8_tell_291 : decode cX8_tell 291 = .ok (.iconst 1, 1) := by decide +kernel
theorem dX8_tell_292 : decode cX8_tell 292 = .ok (.isub, 1) := by decide +kernel
theorem dX8_tell_293 : decode cX8_tell 293 = .ok (.ireturn, 1) := by decide +kernel
theorem dX8_sideOf_0 : decode cX8_sideOf 0 = .ok (.aload_n 0, 1) := by decide +kernel
theorem dX8_sideOf_1 : decode cX8_sideOf 1 = .ok (.getfield 17, 3) := by decide +kernel
theorem dX8_sideOf_4 : decode cX8_sideOf 4 = .ok (.iload_n 1, 1) := by decide +kernel
theorem dX8_sideOf_5 : decode cX8_sideOf 5 = .ok (.iaload, 1) := by decide +kernel
theorem dX8_sideOf_6 : decode cX8_sideOf 6 = .ok (.iload_n 2, 1) := by decide +kernel
theorem dX8_sideOf_7 : decode cX8_sideOf 7 = .ok (.if_icmp .ne 7, 3) := by decide +kernel
theorem dX8_sideOf_10 : decode cX8_sideOf 10 = .ok (.iconst 1, 1) := by decide +kernel
theorem dX8_sideOf_11 : decode cX8_sideOf 11 = .ok (.goto 18, 3) := by decide +kernel
theorem dX8_sideOf_14 : decode cX8_sideOf 14 = .ok (.aload_n 0, 1) := by decide +kernel
theorem dX8_sideOf_15 : decode cX8_sideOf 15 = .ok (.getfield 21, 3) := by decide +kernel
theorem dX8_sideOf_18 : decode cX8_sideOf 18 = .ok (.iload_n 1, 1) := by decide +kernel
theorem dX8_sideOf_19 : decode cX8_sideOf 19 = .ok (.iaload, 1) := by decide +kernel
theorem dX8_sideOf_20 : decode cX8_sideOf 20 = .ok (.iload_n 2, 1) := by decide +kernel
theorem dX8_sideOf_21 : decode cX8_sideOf 21 = .ok (.if_icmp .ne 7, 3) := by decide +kernel
theorem dX8_sideOf_24 : decode cX8_sideOf 24 = .ok (.iconst 2, 1) := by decide +kernel
theorem dX8_sideOf_25 : decode cX8_sideOf 25 = .ok (.goto 4, 3) := by decide +kernel
theorem dX8_sideOf_28 : decode cX8_sideOf 28 = .ok (.iconst 0, 1) := by decide +kernel
theorem dX8_sideOf_29 : decode cX8_sideOf 29 = .ok (.ireturn, 1) := by decide +kernel
theorem dX8_isOver_0 : decode cX8_isOver 0 = .ok (.iload_n 0, 1) := by decide +kernel
theorem dX8_isOver_1 : decode cX8_isOver 1 = .ok (.iconst 1, 1) := by decide +kernel
theorem dX8_isOver_2 : decode cX8_isOver 2 = .ok (.if_icmp .le 7, 3) := by decide +kernel
theorem dX8_isOver_5 : decode cX8_isOver 5 = .ok (.iconst 1, 1) := by decide +kernel
theorem dX8_isOver_6 : decode cX8_isOver 6 = .ok (.goto 4, 3) := by decide +kernel
theorem dX8_isOver_9 : decode cX8_isOver 9 = .ok (.iconst 0, 1) := by decide +kernel
theorem dX8_isOver_10 : decode cX8_isOver 10 = .ok (.ireturn, 1) := by decide +kernel
theorem dX8_hold_0 : decode cX8_hold 0 = .ok (.aload_n 0, 1) := by decide +kernel
theorem dX8_hold_1 : decode cX8_hold 1 = .ok (.aload_n 0, 1) := by decide +kernel
theorem dX8_hold_2 : decode cX8_hold 2 = .ok (.iload_n 1, 1) := by decide +kernel
theorem dX8_hold_3 : decode cX8_hold 3 = .ok (.invokevirtual 190, 3) := by decide +kernel
theorem dX8_hold_6 : decode cX8_hold 6 = .ok (.ifCond .ne 7, 3) := by decide +kernel
theorem dX8_hold_9 : decode cX8_hold 9 = .ok (.iconst 1, 1) := by decide +kernel
theorem dX8_hold_10 : decode cX8_hold 10 = .ok (.goto 33, 3) := by decide +kernel
theorem dX8_hold_13 : decode cX8_hold 13 = .ok (.aload_n 0, 1) := by decide +kernel
theorem dX8_hold_14 : decode cX8_hold 14 = .ok (.iload_n 1, 1) := by decide +kernel
theorem dX8_hold_15 : decode cX8_hold 15 = .ok (.iload_n 2, 1) := by decide +kernel
theorem dX8_hold_16 : decode cX8_hold 16 = .ok (.invokevirtual 193, 3) := by decide +kernel
theorem dX8_hold_19 : decode cX8_hold 19 = .ok (.ifCond .ne 7, 3) := by decide +kernel
theorem dX8_hold_22 : decode cX8_hold 22 = .ok (.iconst 1, 1) := by decide +kernel
theorem dX8_hold_23 : decode cX8_hold 23 = .ok (.goto 20, 3) := by decide +kernel
theorem dX8_hold_26 : decode cX8_hold 26 = .ok (.aload_n 0, 1) := by decide +kernel
theorem dX8_hold_27 : decode cX8_hold 27 = .ok (.getfield 48, 3) := by decide +kernel
theorem dX8_hold_30 : decode cX8_hold 30 = .ok (.iload_n 1, 1) := by decide +kernel
theorem dX8_hold_31 : decode cX8_hold 31 = .ok (.iaload, 1) := by decide +kernel
theorem dX8_hold_32 : decode cX8_hold 32 = .ok (.invokestatic 196, 3) := by decide +kernel
theorem dX8_hold_35 : decode cX8_hold 35 = .ok (.ifCond .eq 7, 3) := by decide +kernel
theorem dX8_hold_38 : decode cX8_hold 38 = .ok (.iconst 2, 1) := by decide +kernel
theorem dX8_hold_39 : decode cX8_hold 39 = .ok (.goto 4, 3) := by decide +kernel
theorem dX8_hold_42 : decode cX8_hold 42 = .ok (.iconst 0, 1) := by decide +kernel
theorem dX8_hold_43 : decode cX8_hold 43 = .ok (.putfield 93, 3) := by decide +kernel
theorem dX8_hold_46 : decode cX8_hold 46 = .ok (.aload_n 0, 1) := by decide +kernel
theorem dX8_hold_47 : decode cX8_hold 47 = .ok (.getfield 93, 3) := by decide +kernel
theorem dX8_hold_50 : decode cX8_hold 50 = .ok (.ifCond .le 5, 3) := by decide +kernel
theorem dX8_hold_53 : decode cX8_hold 53 = .ok (.iconst 0, 1) := by decide +kernel
theorem dX8_hold_54 : decode cX8_hold 54 = .ok (.ireturn, 1) := by decide +kernel
theorem dX8_hold_55 : decode cX8_hold 55 = .ok (.aload_n 0, 1) := by decide +kernel
theorem dX8_hold_56 : decode cX8_hold 56 = .ok (.getfield 54, 3) := by decide +kernel
theorem dX8_hold_59 : decode cX8_hold 59 = .ok (.iload_n 1, 1) := by decide +kernel
theorem dX8_hold_60 : decode cX8_hold 60 = .ok (.iaload, 1) := by decide +kernel
theorem dX8_hold_61 : decode cX8_hold 61 = .ok (.istore 4, 2) := by decide +kernel
theorem dX8_hold_63 : decode cX8_hold 63 = .ok (.aload_n 0, 1) := by decide +kernel
theorem dX8_hold_64 : decode cX8_hold 64 = .ok (.iload_n 1, 1) := by decide +kernel
theorem dX8_hold_65 : decode cX8_hold 65 = .ok (.iload_n 2, 1) := by decide +kernel
theorem dX8_hold_66 : decode cX8_hold 66 = .ok (.invokevirtual 193, 3) := by decide +kernel
theorem dX8_hold_69 : decode cX8_hold 69 = .ok (.istore 5, 2) := by decide +kernel
theorem dX8_hold_71 : decode cX8_hold 71 = .ok (.aload_n 0, 1) := by decide +kernel
theorem dX8_hold_72 : decode cX8_hold 72 = .ok (.getfield 54, 3) := by decide +kernel
theorem dX8_hold_75 : decode cX8_hold 75 = .ok (.iload_n 1, 1) := by decide +kernel
theorem dX8_hold_76 : decode cX8_hold 76 = .ok (.iload_n 3, 1) := by decide +kernel
theorem dX8_hold_77 : decode cX8_hold 77 = .ok (.ifCond .eq 11, 3) := by decide +kernel
theorem dX8_hold_80 : decode cX8_hold 80 = .ok (.iload 4, 2) := by decide +kernel
theorem dX8_hold_82 : decode cX8_hold 82 = .ok (.iload 5, 2) := by decide +kernel
theorem dX8_hold_84 : decode cX8_hold 84 = .ok (.ior, 1) := by decide +kernel
theorem dX8_hold_85 : decode cX8_hold 85 = .ok (.goto 10, 3) := by decide +kernel
theorem dX8_hold_88 : decode cX8_hold 88 = .ok (.iload 4, 2) := by decide +kernel
theorem dX8_hold_90 : decode cX8_hold 90 = .ok (.iconst 3, 1) := by decide +kernel
theorem dX8_hold_91 : decode cX8_hold 91 = .ok (.iload 5, 2) := by decide +kernel
theorem dX8_hold_93 : decode cX8_hold 93 = .ok (.isub, 1) := by decide +kernel
theorem dX8_hold_94 : decode cX8_hold 94 = .ok (.iand, 1) := by decide +kernel
theorem dX8_hold_95 : decode cX8_hold 95 = .ok (.iastore, 1) := by decide +kernel
theorem dX8_hold_96 : decode cX8_hold 96 = .ok (.aload_n 0, 1) := by decide +kernel
theorem dX8_hold_97 : decode cX8_hold 97 = .ok (.getfield 54, 3) := by decide +kernel
theorem dX8_hold_100 : decode cX8_hold 100 = .ok (.iload_n 1, 1) := by decide +kernel
theorem dX8_hold_101 : decode cX8_hold 101 = .ok (.iaload, 1) := by decide +kernel
theorem dX8_hold_102 : decode cX8_hold 102 = .ok (.iload 4, 2) := by decide +kernel
theorem dX8_hold_104 : decode cX8_hold 104 = .ok (.if_icmp .eq 7, 3) := by decide +kernel
theorem dX8_hold_107 : decode cX8_hold 107 = .ok (.iconst 1, 1) := by decide +kernel
theorem dX8_hold_108 : decode cX8_hold 108 = .ok (.goto 4, 3) := by decide +kernel
theorem dX8_hold_111 : decode cX8_hold 111 = .ok (.iconst 0, 1) := by decide +kernel
theorem dX8_hold_112 : decode cX8_hold 112 = .ok (.ireturn, 1) := by decide +kernel
theorem dX8_rank_0 : decode cX8_rank 0 = .ok (.aload_n 0, 1) := by decide +kernel
theorem dX8_rank_1 : decode cX8_rank 1 = .ok (.aload_n 0, 1) := by decide +kernel
theorem dX8_rank_2 : decode cX8_rank 2 = .ok (.iload_n 1, 1) := by decide +kernel
theorem dX8_rank_3 : decode cX8_rank 3 = .ok (.invokevirtual 190, 3) := by decide +kernel
theorem dX8_rank_6 : decode cX8_rank 6 = .ok (.ifCond .eq 15, 3) := by decide +kernel
theorem dX8_rank_9 : decode cX8_rank 9 = .ok (.iload_n 2, 1) := by decide +kernel
theorem dX8_rank_10 : decode cX8_rank 10 = .ok (.i2l, 1) := by decide +kernel
theorem dX8_rank_11 : decode cX8_rank 11 = .ok (.lconst 0, 1) := by decide +kernel
theorem dX8_rank_12 : decode cX8_rank 12 = .ok (.ldc2_w 199, 3) := by decide +kernel
theorem dX8_rank_15 : decode cX8_rank 15 = .ok (.invokestatic 99, 3) := by decide +kernel
theorem dX8_rank_18 : decode cX8_rank 18 = .ok (.ifCond .ne 7, 3) := by decide +kernel
theorem dX8_rank_21 : decode cX8_rank 21 = .ok (.iconst 1, 1) := by decide +kernel
theorem dX8_rank_22 : decode cX8_rank 22 = .ok (.goto 20, 3) := by decide +kernel
theorem dX8_rank_25 : decode cX8_rank 25 = .ok (.aload_n 0, 1) := by decide +kernel
theorem dX8_rank_26 : decode cX8_rank 26 = .ok (.getfield 48, 3) := by decide +kernel
theorem dX8_rank_29 : decode cX8_rank 29 = .ok (.iload_n 1, 1) := by decide +kernel
theorem dX8_rank_30 : decode cX8_rank 30 = .ok (.iaload, 1) := by decide +kernel
theorem dX8_rank_31 : decode cX8_rank 31 = .ok (.invokestatic 196, 3) := by decide +kernel
theorem dX8_rank_34 : decode cX8_rank 34 = .ok (.ifCond .eq 7, 3) := by decide +kernel
theorem dX8_rank_37 : decode cX8_rank 37 = .ok (.iconst 2, 1) := by decide +kernel
theorem dX8_rank_38 : decode cX8_rank 38 = .ok (.goto 4, 3) := by decide +kernel
theorem dX8_rank_41 : decode cX8_rank 41 = .ok (.iconst 0, 1) := by decide +kernel
theorem dX8_rank_42 : decode cX8_rank 42 = .ok (.putfield 93, 3) := by decide +kernel
theorem dX8_rank_45 : decode cX8_rank 45 = .ok (.aload_n 0, 1) := by decide +kernel
theorem dX8_rank_46 : decode cX8_rank 46 = .ok (.getfield 93, 3) := by decide +kernel
theorem dX8_rank_49 : decode cX8_rank 49 = .ok (.ifCond .le 5, 3) := by decide +kernel
theorem dX8_rank_52 : decode cX8_rank 52 = .ok (.iconst 0, 1) := by decide +kernel
theorem dX8_rank_53 : decode cX8_rank 53 = .ok (.ireturn, 1) := by decide +kernel
theorem dX8_rank_54 : decode cX8_rank 54 = .ok (.aload_n 0, 1) := by decide +kernel
theorem dX8_rank_55 : decode cX8_rank 55 = .ok (.getfield 60, 3) := by decide +kernel
theorem dX8_rank_58 : decode cX8_rank 58 = .ok (.iload_n 1, 1) := by decide +kernel
theorem dX8_rank_59 : decode cX8_rank 59 = .ok (.iaload, 1) := by decide +kernel
theorem dX8_rank_60 : decode cX8_rank 60 = .ok (.istore 4, 2) := by decide +kernel
theorem dX8_rank_62 : decode cX8_rank 62 = .ok (.aload_n 0, 1) := by decide +kernel
theorem dX8_rank_63 : decode cX8_rank 63 = .ok (.getfield 60, 3) := by decide +kernel
theorem dX8_rank_66 : decode cX8_rank 66 = .ok (.iload_n 1, 1) := by decide +kernel
theorem dX8_rank_67 : decode cX8_rank 67 = .ok (.iload_n 2, 1) := by decide +kernel
theorem dX8_rank_68 : decode cX8_rank 68 = .ok (.iastore, 1) := by decide +kernel
theorem dX8_rank_69 : decode cX8_rank 69 = .ok (.aload_n 0, 1) := by decide +kernel
theorem dX8_rank_70 : decode cX8_rank 70 = .ok (.getfield 63, 3) := by decide +kernel
theorem dX8_rank_73 : decode cX8_rank 73 = .ok (.iload_n 1, 1) := by decide +kernel
theorem dX8_rank_74 : decode cX8_rank 74 = .ok (.iload_n 3, 1) := by decide +kernel
theorem dX8_rank_75 : decode cX8_rank 75 = .ok (.bastore, 1) := by decide +kernel
theorem dX8_rank_76 : decode cX8_rank 76 = .ok (.iload 4, 2) := by decide +kernel
theorem dX8_rank_78 : decode cX8_rank 78 = .ok (.ireturn, 1) := by decide +kernel
theorem dX8_link_0 : decode cX8_link 0 = .ok (.aload_n 0, 1) := by decide +kernel
theorem dX8_link_1 : decode cX8_link 1 = .ok (.aload_n 0, 1) := by decide +kernel
theorem dX8_link_2 : decode cX8_link 2 = .ok (.iload_n 1, 1) := by decide +kernel
theorem dX8_link_3 : decode cX8_link 3 = .ok (.invokevirtual 190, 3) := by decide +kernel
theorem dX8_link_6 : decode cX8_link 6 = .ok (.ifCond .eq 11, 3) := by decide +kernel
theorem dX8_link_9 : decode cX8_link 9 = .ok (.aload_n 0, 1) := by decide +kernel
theorem dX8_link_10 : decode cX8_link 10 = .ok (.iload_n 2, 1) := by decide +kernel
theorem dX8_link_11 : decode cX8_link 11 = .ok (.invokevirtual 190, 3) := by decide +kernel
theorem dX8_link_14 : decode cX8_link 14 = .ok (.ifCond .ne 7, 3) := by decide +kernel
theorem dX8_link_17 : decode cX8_link 17 = .ok (.iconst 1, 1) := by decide +kernel
theorem dX8_link_18 : decode cX8_link 18 = .ok (.goto 28, 3) := by decide +kernel
theorem dX8_link_21 : decode cX8_link 21 = .ok (.aload_n 0, 1) := by decide +kernel
theorem dX8_link_22 : decode cX8_link 22 = .ok (.getfield 48, 3) := by decide +kernel
theorem dX8_link_25 : decode cX8_link 25 = .ok (.iload_n 1, 1) := by decide +kernel
theorem dX8_link_26 : decode cX8_link 26 = .ok (.iaload, 1) := by decide +kernel
theorem dX8_link_27 : decode cX8_link 27 = .ok (.iconst 1, 1) := by decide +kernel
theorem dX8_link_28 : decode cX8_link 28 = .ok (.if_icmp .ne 13, 3) := by decide +kernel
theorem dX8_link_31 : decode cX8_link 31 = .ok (.aload_n 0, 1) := by decide +kernel
theorem dX8_link_32 : decode cX8_link 32 = .ok (.getfield 48, 3) := by decide +kernel
theorem dX8_link_35 : decode cX8_link 35 = .ok (.iload_n 2, 1) := by decide +kernel
theorem dX8_link_36 : decode cX8_link 36 = .ok (.iaload, 1) := by decide +kernel
theorem dX8_link_37 : decode cX8_link 37 = .ok (.iconst 1, 1) := by decide +kernel
theorem dX8_link_38 : decode cX8_link 38 = .ok (.if_icmp .eq 7, 3) := by decide +kernel
theorem dX8_link_41 : decode cX8_link 41 = .ok (.iconst 2, 1) := by decide +kernel
theorem dX8_link_42 : decode cX8_link 42 = .ok (.goto 4, 3) := by decide +kernel
theorem dX8_link_45 : decode cX8_link 45 = .ok (.iconst 0, 1) := by decide +kernel
theorem dX8_link_46 : decode cX8_link 46 = .ok (.putfield 93, 3) := by decide +kernel
theorem dX8_link_49 : decode cX8_link 49 = .ok (.aload_n 0, 1) := by decide +kernel
theorem dX8_link_50 : decode cX8_link 50 = .ok (.getfield 93, 3) := by decide +kernel
theorem dX8_link_53 : decode cX8_link 53 = .ok (.ifCond .le 5, 3) := by decide +kernel
theorem dX8_link_56 : decode cX8_link 56 = .ok (.iconst 0, 1) := by decide +kernel
theorem dX8_link_57 : decode cX8_link 57 = .ok (.ireturn, 1) := by decide +kernel
theorem dX8_link_58 : decode cX8_link 58 = .ok (.aload_n 0, 1) := by decide +kernel
theorem dX8_link_59 : decode cX8_link 59 = .ok (.getfield 69, 3) := by decide +kernel
theorem dX8_link_62 : decode cX8_link 62 = .ok (.iload_n 1, 1) := by decide +kernel
theorem dX8_link_63 : decode cX8_link 63 = .ok (.iaload, 1) := by decide +kernel
theorem dX8_link_64 : decode cX8_link 64 = .ok (.istore_n 3, 1) := by decide +kernel
theorem dX8_link_65 : decode cX8_link 65 = .ok (.aload_n 0, 1) := by decide +kernel
theorem dX8_link_66 : decode cX8_link 66 = .ok (.getfield 69, 3) := by decide +kernel
theorem dX8_link_69 : decode cX8_link 69 = .ok (.iload_n 2, 1) := by decide +kernel
theorem dX8_link_70 : decode cX8_link 70 = .ok (.iaload, 1) := by decide +kernel
theorem dX8_link_71 : decode cX8_link 71 = .ok (.istore 4, 2) := by decide +kernel
theorem dX8_link_73 : decode cX8_link 73 = .ok (.iload_n 3, 1) := by decide +kernel
theorem dX8_link_74 : decode cX8_link 74 = .ok (.iload 4, 2) := by decide +kernel
theorem dX8_link_76 : decode cX8_link 76 = .ok (.if_icmp .ne 11, 3) := by decide +kernel
theorem dX8_link_79 : decode cX8_link 79 = .ok (.aload_n 0, 1) := by decide +kernel
theorem dX8_link_80 : decode cX8_link 80 = .ok (.iload_n 3, 1) := by decide +kernel
theorem dX8_link_81 : decode cX8_link 81 = .ok (.invokevirtual 151, 3) := by decide +kernel
theorem dX8_link_84 : decode cX8_link 84 = .ok (.goto 15, 3) := by decide +kernel
theorem dX8_link_87 : decode cX8_link 87 = .ok (.aload_n 0, 1) := by decide +kernel
theorem dX8_link_88 : decode cX8_link 88 = .ok (.iload_n 3, 1) := by decide +kernel
theorem dX8_link_89 : decode cX8_link 89 = .ok (.invokevirtual 151, 3) := by decide +kernel
theorem dX8_link_92 : decode cX8_link 92 = .ok (.aload_n 0, 1) := by decide +kernel
theorem dX8_link_93 : decode cX8_link 93 = .ok (.iload 4, 2) := by decide +kernel
theorem dX8_link_95 : decode cX8_link 95 = .ok (.invokevirtual 151, 3) := by decide +kernel
theorem dX8_link_98 : decode cX8_link 98 = .ok (.iadd, 1) := by decide +kernel
theorem dX8_link_99 : decode cX8_link 99 = .ok (.istore 5, 2) := by decide +kernel
theorem dX8_link_101 : decode cX8_link 101 = .ok (.aload_n 0, 1) := by decide +kernel
theorem dX8_link_102 : decode cX8_link 102 = .ok (.iload 5, 2) := by decide +kernel
theorem dX8_link_104 : decode cX8_link 104 = .ok (.bipush 6, 2) := by decide +kernel
theorem dX8_link_106 : decode cX8_link 106 = .ok (.if_icmp .le 7, 3) := by decide +kernel
theorem dX8_link_109 : decode cX8_link 109 = .ok (.iconst 2, 1) := by decide +kernel
theorem dX8_link_110 : decode cX8_link 110 = .ok (.goto 4, 3) := by decide +kernel
theorem dX8_link_113 : decode cX8_link 113 = .ok (.iconst 0, 1) := by decide +kernel
theorem dX8_link_114 : decode cX8_link 114 = .ok (.putfield 93, 3) := by decide +kernel
theorem dX8_link_117 : decode cX8_link 117 = .ok (.aload_n 0, 1) := by decide +kernel
theorem dX8_link_118 : decode cX8_link 118 = .ok (.getfield 93, 3) := by decide +kernel
theorem dX8_link_121 : decode cX8_link 121 = .ok (.ifCond .le 5, 3) := by decide +kernel
theorem dX8_link_124 : decode cX8_link 124 = .ok (.iconst 0, 1) := by decide +kernel
theorem dX8_link_125 : decode cX8_link 125 = .ok (.ireturn, 1) := by decide +kernel
theorem dX8_link_126 : decode cX8_link 126 = .ok (.iconst 0, 1) := by decide +kernel
theorem dX8_link_127 : decode cX8_link 127 = .ok (.istore 6, 2) := by decide +kernel
theorem dX8_link_129 : decode cX8_link 129 = .ok (.iload 6, 2) := by decide +kernel
theorem dX8_link_131 : decode cX8_link 131 = .ok (.aload_n 0, 1) := by decide +kernel
theorem dX8_link_132 : decode cX8_link 132 = .ok (.getfield 107, 3) := by decide +kernel
theorem dX8_link_135 : decode cX8_link 135 = .ok (.if_icmp .ge 39, 3) := by decide +kernel
theorem dX8_link_138 : decode cX8_link 138 = .ok (.aload_n 0, 1) := by decide +kernel
theorem dX8_link_139 : decode cX8_link 139 = .ok (.getfield 69, 3) := by decide +kernel
theorem dX8_link_142 : decode cX8_link 142 = .ok (.iload 6, 2) := by decide +kernel
theorem dX8_link_144 : decode cX8_link 144 = .ok (.aload_n 0, 1) := by decide +kernel
theorem dX8_link_145 : decode cX8_link 145 = .ok (.getfield 69, 3) := by decide +kernel
theorem dX8_link_148 : decode cX8_link 148 = .ok (.iload 6, 2) := by decide +kernel
theorem dX8_link_150 : decode cX8_link 150 = .ok (.iaload, 1) := by decide +kernel
theorem dX8_link_151 : decode cX8_link 151 = .ok (.iload 4, 2) := by decide +kernel
theorem dX8_link_153 : decode cX8_link 153 = .ok (.if_icmp .ne 7, 3) := by decide +kernel
theorem dX8_link_156 : decode cX8_link 156 = .ok (.iload_n 3, 1) := by decide +kernel
theorem dX8_link_157 : decode cX8_link 157 = .ok (.goto 10, 3) := by decide +kernel
theorem dX8_link_160 : decode cX8_link 160 = .ok (.aload_n 0, 1) := by decide +kernel
theorem dX8_link_161 : decode cX8_link 161 = .ok (.getfield 69, 3) := by decide +kernel
theorem dX8_link_164 : decode cX8_link 164 = .ok (.iload 6, 2) := by decide +kernel
theorem dX8_link_166 : decode cX8_link 166 = .ok (.iaload, 1) := by decide +kernel
theorem dX8_link_167 : decode cX8_link 167 = .ok (.iastore, 1) := by decide +kernel
theorem dX8_link_168 : decode cX8_link 168 = .ok (.iinc 6 1, 3) := by decide +kernel
theorem dX8_link_171 : decode cX8_link 171 = .ok (.goto (-42), 3) := by decide +kernel
theorem dX8_link_174 : decode cX8_link 174 = .ok (.iload 5, 2) := by decide +kernel
theorem dX8_link_176 : decode cX8_link 176 = .ok (.ireturn, 1) := by decide +kernel
theorem dX8_cancel_0 : decode cX8_cancel 0 = .ok (.aload_n 0, 1) := by decide +kernel
theorem dX8_cancel_1 : decode cX8_cancel 1 = .ok (.aload_n 0, 1) := by decide +kernel
theorem dX8_cancel_2 : decode cX8_cancel 2 = .ok (.iload_n 1, 1) := by decide +kernel
theorem dX8_cancel_3 : decode cX8_cancel 3 = .ok (.invokevirtual 190, 3) := by decide +kernel
theorem dX8_cancel_6 : decode cX8_cancel 6 = .ok (.ifCond .ne 7, 3) := by decide +kernel
theorem dX8_cancel_9 : decode cX8_cancel 9 = .ok (.iconst 1, 1) := by decide +kernel
theorem dX8_cancel_10 : decode cX8_cancel 10 = .ok (.goto 33, 3) := by decide +kernel
theorem dX8_cancel_13 : decode cX8_cancel 13 = .ok (.aload_n 0, 1) := by decide +kernel
theorem dX8_cancel_14 : decode cX8_cancel 14 = .ok (.iload_n 1, 1) := by decide +kernel
theorem dX8_cancel_15 : decode cX8_cancel 15 = .ok (.iload_n 2, 1) := by decide +kernel
theorem dX8_cancel_16 : decode cX8_cancel 16 = .ok (.invokevirtual 193, 3) := by decide +kernel
theorem dX8_cancel_19 : decode cX8_cancel 19 = .ok (.ifCond .ne 7, 3) := by decide +kernel
theorem dX8_cancel_22 : decode cX8_cancel 22 = .ok (.iconst 1, 1) := by decide +kernel
theorem dX8_cancel_23 : decode cX8_cancel 23 = .ok (.goto 20, 3) := by decide +kernel
theorem dX8_cancel_26 : decode cX8_cancel 26 = .ok (.aload_n 0, 1) := by decide +kernel
theorem dX8_cancel_27 : decode cX8_cancel 27 = .ok (.getfield 48, 3) := by decide +kernel
theorem dX8_cancel_30 : decode cX8_cancel 30 = .ok (.iload_n 1, 1) := by decide +kernel
theorem dX8_cancel_31 : decode cX8_cancel 31 = .ok (.iaload, 1) := by decide +kernel
theorem dX8_cancel_32 : decode cX8_cancel 32 = .ok (.invokestatic 196, 3) := by decide +kernel
theorem dX8_cancel_35 : decode cX8_cancel 35 = .ok (.ifCond .eq 7, 3) := by decide +kernel
theorem dX8_cancel_38 : decode cX8_cancel 38 = .ok (.iconst 2, 1) := by decide +kernel
theorem dX8_cancel_39 : decode cX8_cancel 39 = .ok (.goto 4, 3) := by decide +kernel
theorem dX8_cancel_42 : decode cX8_cancel 42 = .ok (.iconst 0, 1) := by decide +kernel
theorem dX8_cancel_43 : decode cX8_cancel 43 = .ok (.putfield 93, 3) := by decide +kernel
theorem dX8_cancel_46 : decode cX8_cancel 46 = .ok (.aload_n 0, 1) := by decide +kernel
theorem dX8_cancel_47 : decode cX8_cancel 47 = .ok (.getfield 93, 3) := by decide +kernel
theorem dX8_cancel_50 : decode cX8_cancel 50 = .ok (.ifCond .le 5, 3) := by decide +kernel
theorem dX8_cancel_53 : decode cX8_cancel 53 = .ok (.iconst 0, 1) := by decide +kernel
theorem dX8_cancel_54 : decode cX8_cancel 54 = .ok (.ireturn, 1) := by decide +kernel
theorem dX8_cancel_55 : decode cX8_cancel 55 = .ok (.aload_n 0, 1) := by decide +kernel
theorem dX8_cancel_56 : decode cX8_cancel 56 = .ok (.getfield 57, 3) := by decide +kernel
theorem dX8_cancel_59 : decode cX8_cancel 59 = .ok (.iload_n 1, 1) := by decide +kernel
theorem dX8_cancel_60 : decode cX8_cancel 60 = .ok (.dup2, 1) := by decide +kernel
theorem dX8_cancel_61 : decode cX8_cancel 61 = .ok (.iaload, 1) := by decide +kernel
theorem dX8_cancel_62 : decode cX8_cancel 62 = .ok (.aload_n 0, 1) := by decide +kernel
theorem dX8_cancel_63 : decode cX8_cancel 63 = .ok (.iload_n 1, 1) := by decide +kernel
theorem dX8_cancel_64 : decode cX8_cancel 64 = .ok (.iload_n 2, 1) := by decide +kernel
theorem dX8_cancel_65 : decode cX8_cancel 65 = .ok (.invokevirtual 193, 3) := by decide +kernel
theorem dX8_cancel_68 : decode cX8_cancel 68 = .ok (.ior, 1) := by decide +kernel
theorem dX8_cancel_69 : decode cX8_cancel 69 = .ok (.iastore, 1) := by decide +kernel
theorem dX8_cancel_70 : decode cX8_cancel 70 = .ok (.aload_n 0, 1) := by decide +kernel
theorem dX8_cancel_71 : decode cX8_cancel 71 = .ok (.getfield 48, 3) := by decide +kernel
theorem dX8_cancel_74 : decode cX8_cancel 74 = .ok (.iload_n 1, 1) := by decide +kernel
theorem dX8_cancel_75 : decode cX8_cancel 75 = .ok (.iaload, 1) := by decide +kernel
theorem dX8_cancel_76 : decode cX8_cancel 76 = .ok (.ifCond .eq 13, 3) := by decide +kernel
theorem dX8_cancel_79 : decode cX8_cancel 79 = .ok (.aload_n 0, 1) := by decide +kernel
theorem dX8_cancel_80 : decode cX8_cancel 80 = .ok (.getfield 57, 3) := by decide +kernel
theorem dX8_cancel_83 : decode cX8_cancel 83 = .ok (.iload_n 1, 1) := by decide +kernel
theorem dX8_cancel_84 : decode cX8_cancel 84 = .ok (.iaload, 1) := by decide +kernel
theorem dX8_cancel_85 : decode cX8_cancel 85 = .ok (.iconst 3, 1) := by decide +kernel
theorem dX8_cancel_86 : decode cX8_cancel 86 = .ok (.if_icmp .ne 17, 3) := by decide +kernel
theorem dX8_cancel_89 : decode cX8_cancel 89 = .ok (.aload_n 0, 1) := by decide +kernel
theorem dX8_cancel_90 : decode cX8_cancel 90 = .ok (.getfield 48, 3) := by decide +kernel
theorem dX8_cancel_93 : decode cX8_cancel 93 = .ok (.iload_n 1, 1) := by decide +kernel
theorem dX8_cancel_94 : decode cX8_cancel 94 = .ok (.iconst 3, 1) := by decide +kernel
theorem dX8_cancel_95 : decode cX8_cancel 95 = .ok (.iastore, 1) := by decide +kernel
theorem dX8_cancel_96 : decode cX8_cancel 96 = .ok (.aload_n 0, 1) := by decide +kernel
theorem dX8_cancel_97 : decode cX8_cancel 97 = .ok (.getfield 69, 3) := by decide +kernel
theorem dX8_cancel_100 : decode cX8_cancel 100 = .ok (.iload_n 1, 1) := by decide +kernel
theorem dX8_cancel_101 : decode cX8_cancel 101 = .ok (.iconst (-1), 1) := by decide +kernel
theorem dX8_cancel_102 : decode cX8_cancel 102 = .ok (.iastore, 1) := by decide +kernel
theorem dX8_cancel_103 : decode cX8_cancel 103 = .ok (.aload_n 0, 1) := by decide +kernel
theorem dX8_cancel_104 : decode cX8_cancel 104 = .ok (.getfield 48, 3) := by decide +kernel
theorem dX8_cancel_107 : decode cX8_cancel 107 = .ok (.iload_n 1, 1) := by decide +kernel
theorem dX8_cancel_108 : decode cX8_cancel 108 = .ok (.iaload, 1) := by decide +kernel
theorem dX8_cancel_109 : decode cX8_cancel 109 = .ok (.ireturn, 1) := by decide +kernel
theorem dX8_nextDay_0 : decode cX8_nextDay 0 = .ok (.aload_n 0, 1) := by decide +kernel
theorem dX8_nextDay_1 : decode cX8_nextDay 1 = .ok (.aload_n 0, 1) := by decide +kernel
theorem dX8_nextDay_2 : decode cX8_nextDay 2 = .ok (.getfield 129, 3) := by decide +kernel
theorem dX8_nextDay_5 : decode cX8_nextDay 5 = .ok (.sipush 20000, 3) := by decide +kernel
theorem dX8_nextDay_8 : decode cX8_nextDay 8 = .ok (.if_icmp .ne 7, 3) := by decide +kernel
theorem dX8_nextDay_11 : decode cX8_nextDay 11 = .ok (.iconst 1, 1) := by decide +kernel
theorem dX8_nextDay_12 : decode cX8_nextDay 12 = .ok (.goto 4, 3) := by decide +kernel
theorem dX8_nextDay_15 : decode cX8_nextDay 15 = .ok (.iconst 0, 1) := by decide +kernel
theorem dX8_nextDay_16 : decode cX8_nextDay 16 = .ok (.putfield 93, 3) := by decide +kernel
theorem dX8_nextDay_19 : decode cX8_nextDay 19 = .ok (.aload_n 0, 1) := by decide +kernel
theorem dX8_nextDay_20 : decode cX8_nextDay 20 = .ok (.getfield 93, 3) := by decide +kernel
theorem dX8_nextDay_23 : decode cX8_nextDay 23 = .ok (.ifCond .le 7, 3) := by decide +kernel
theorem dX8_nextDay_26 : decode cX8_nextDay 26 = .ok (.iconst 0, 1) := by decide +kernel
theorem dX8_nextDay_27 : decode cX8_nextDay 27 = .ok (.goto 7, 3) := by decide +kernel
theorem dX8_nextDay_30 : decode cX8_nextDay 30 = .ok (.aload_n 0, 1) := by decide +kernel
theorem dX8_nextDay_31 : decode cX8_nextDay 31 = .ok (.invokevirtual 201, 3) := by decide +kernel
theorem dX8_nextDay_34 : decode cX8_nextDay 34 = .ok (.ireturn, 1) := by decide +kernel
theorem dX8_goTo_0 : decode cX8_goTo 0 = .ok (.aload_n 0, 1) := by decide +kernel
theorem dX8_goTo_1 : decode cX8_goTo 1 = .ok (.iload_n 1, 1) := by decide +kernel
theorem dX8_goTo_2 : decode cX8_goTo 2 = .ok (.i2l, 1) := by decide +kernel
theorem dX8_goTo_3 : decode cX8_goTo 3 = .ok (.aload_n 0, 1) := by decide +kernel
theorem dX8_goTo_4 : decode cX8_goTo 4 = .ok (.getfield 129, 3) := by decide +kernel
theorem dX8_goTo_7 : decode cX8_goTo 7 = .ok (.iconst 1, 1) := by decide +kernel
theorem dX8_goTo_8 : decode cX8_goTo 8 = .ok (.iadd, 1) := by decide +kernel
theorem dX8_goTo_9 : decode cX8_goTo 9 = .ok (.i2l, 1) := by decide +kernel
theorem dX8_goTo_10 : decode cX8_goTo 10 = .ok (.aload_n 0, 1) := by decide +kernel
theorem dX8_goTo_11 : decode cX8_goTo 11 = .ok (.getfield 129, 3) := by decide +kernel
theorem dX8_goTo_14 : decode cX8_goTo 14 = .ok (.sipush 400, 3) := by decide +kernel
theorem dX8_goTo_17 : decode cX8_goTo 17 = .ok (.iadd, 1) := by decide +kernel
theorem dX8_goTo_18 : decode cX8_goTo 18 = .ok (.i2l, 1) := by decide +kernel
theorem dX8_goTo_19 : decode cX8_goTo 19 = .ok (.invokestatic 99, 3) := by decide +kernel
theorem dX8_goTo_22 : decode cX8_goTo 22 = .ok (.ifCond .eq 14, 3) := by decide +kernel
theorem dX8_goTo_25 : decode cX8_goTo 25 = .ok (.iload_n 1, 1) := by decide +kernel
theorem dX8_goTo_26 : decode cX8_goTo 26 = .ok (.sipush 20000, 3) := by decide +kernel
theorem dX8_goTo_29 : decode cX8_goTo 29 = .ok (.if_icmp .gt 7, 3) := by decide +kernel
theorem dX8_goTo_32 : decode cX8_goTo 32 = .ok (.iconst 0, 1) := by decide +kernel
theorem dX8_goTo_33 : decode cX8_goTo 33 = .ok (.goto 4, 3) := by decide +kernel
theorem dX8_goTo_36 : decode cX8_goTo 36 = .ok (.iconst 1, 1) := by decide +kernel
theorem dX8_goTo_37 : decode cX8_goTo 37 = .ok (.putfield 93, 3) := by decide +kernel
theorem dX8_goTo_40 : decode cX8_goTo 40 = .ok (.iconst 0, 1) := by decide +kernel
theorem dX8_goTo_41 : decode cX8_goTo 41 = .ok (.istore_n 2, 1) := by decide +kernel
theorem dX8_goTo_42 : decode cX8_goTo 42 = .ok (.aload_n 0, 1) := by decide +kernel
theorem dX8_goTo_43 : decode cX8_goTo 43 = .ok (.getfield 93, 3) := by decide +kernel
theorem dX8_goTo_46 : decode cX8_goTo 46 = .ok (.ifCond .ne 21, 3) := by decide +kernel
theorem dX8_goTo_49 : decode cX8_goTo 49 = .ok (.aload_n 0, 1) := by decide +kernel
theorem dX8_goTo_50 : decode cX8_goTo 50 = .ok (.getfield 129, 3) := by decide +kernel
theorem dX8_goTo_53 : decode cX8_goTo 53 = .ok (.iload_n 1, 1) := by decide +kernel
theorem dX8_goTo_54 : decode cX8_goTo 54 = .ok (.if_icmp .ge 13, 3) := by decide +kernel
theorem dX8_goTo_57 : decode cX8_goTo 57 = .ok (.iload_n 2, 1) := by decide +kernel
theorem dX8_goTo_58 : decode cX8_goTo 58 = .ok (.aload_n 0, 1) := by decide +kernel
theorem dX8_goTo_59 : decode cX8_goTo 59 = .ok (.invokevirtual 201, 3) := by decide +kernel
theorem dX8_goTo_62 : decode cX8_goTo 62 = .ok (.iadd, 1) := by decide +kernel
theorem dX8_goTo_63 : decode cX8_goTo 63 = .ok (.istore_n 2, 1) := by decide +kernel
theorem dX8_goTo_64 : decode cX8_goTo 64 = .ok (.goto (-22), 3) := by decide +kernel
theorem dX8_goTo_67 : decode cX8_goTo 67 = .ok (.iload_n 2, 1) := by decide +kernel
theorem dX8_goTo_68 : decode cX8_goTo 68 = .ok (.ireturn, 1) := by decide +kernel
theorem dX8_has_0 : decode cX8_has 0 = .ok (.aload_n 0, 1) := by decide +kernel
theorem dX8_has_1 : decode cX8_has 1 = .ok (.iload_n 1, 1) := by decide +kernel
theorem dX8_has_2 : decode cX8_has 2 = .ok (.invokestatic 164, 3) := by decide +kernel
theorem dX8_has_5 : decode cX8_has 5 = .ok (.ifCond .eq 14, 3) := by decide +kernel
theorem dX8_has_8 : decode cX8_has 8 = .ok (.iload_n 2, 1) := by decide +kernel
theorem dX8_has_9 : decode cX8_has 9 = .ok (.invokestatic 167, 3) := by decide +kernel
theorem dX8_has_12 : decode cX8_has 12 = .ok (.ifCond .eq 7, 3) := by decide +kernel
theorem dX8_has_15 : decode cX8_has 15 = .ok (.iconst 0, 1) := by decide +kernel
theorem dX8_has_16 : decode cX8_has 16 = .ok (.goto 4, 3) := by decide +kernel
theorem dX8_has_19 : decode cX8_has 19 = .ok (.iconst 1, 1) := by decide +kernel
theorem dX8_has_20 : decode cX8_has 20 = .ok (.putfield 93, 3) := by decide +kernel
theorem dX8_has_23 : decode cX8_has 23 = .ok (.aload_n 0, 1) := by decide +kernel
theorem dX8_has_24 : decode cX8_has 24 = .ok (.getfield 93, 3) := by decide +kernel
theorem dX8_has_27 : decode cX8_has 27 = .ok (.ifCond .le 7, 3) := by decide +kernel
theorem dX8_has_30 : decode cX8_has 30 = .ok (.lconst 0, 1) := by decide +kernel
theorem dX8_has_31 : decode cX8_has 31 = .ok (.goto 13, 3) := by decide +kernel
theorem dX8_has_34 : decode cX8_has 34 = .ok (.aload_n 0, 1) := by decide +kernel
theorem dX8_has_35 : decode cX8_has 35 = .ok (.getfield 13, 3) := by decide +kernel
theorem dX8_has_38 : decode cX8_has 38 = .ok (.iload_n 1, 1) := by decide +kernel
theorem dX8_has_39 : decode cX8_has 39 = .ok (.iload_n 2, 1) := by decide +kernel
theorem dX8_has_40 : decode cX8_has 40 = .ok (.invokestatic 118, 3) := by decide +kernel
theorem dX8_has_43 : decode cX8_has 43 = .ok (.laload, 1) := by decide +kernel
theorem dX8_has_44 : decode cX8_has 44 = .ok (.lreturn, 1) := by decide +kernel
theorem dX8_trade_0 : decode cX8_trade 0 = .ok (.aload_n 0, 1) := by decide +kernel
theorem dX8_trade_1 : decode cX8_trade 1 = .ok (.aload_n 0, 1) := by decide +kernel
theorem dX8_trade_2 : decode cX8_trade 2 = .ok (.iload_n 1, 1) := by decide +kernel
theorem dX8_trade_3 : decode cX8_trade 3 = .ok (.invokevirtual 190, 3) := by decide +kernel
theorem dX8_trade_6 : decode cX8_trade 6 = .ok (.ifCond .eq 19, 3) := by decide +kernel
theorem dX8_trade_9 : decode cX8_trade 9 = .ok (.iload_n 2, 1) := by decide +kernel
theorem dX8_trade_10 : decode cX8_trade 10 = .ok (.i2l, 1) := by decide +kernel
theorem dX8_trade_11 : decode cX8_trade 11 = .ok (.lconst 0, 1) := by decide +kernel
theorem dX8_trade_12 : decode cX8_trade 12 = .ok (.ldc2_w 178, 3) := by decide +kernel
theorem dX8_trade_15 : decode cX8_trade 15 = .ok (.invokestatic 99, 3) := by decide +kernel
theorem dX8_trade_18 : decode cX8_trade 18 = .ok (.ifCond .eq 7, 3) := by decide +kernel
theorem dX8_trade_21 : decode cX8_trade 21 = .ok (.iconst 0, 1) := by decide +kernel
theorem dX8_trade_22 : decode cX8_trade 22 = .ok (.goto 4, 3) := by decide +kernel
theorem dX8_trade_25 : decode cX8_trade 25 = .ok (.iconst 1, 1) := by decide +kernel
theorem dX8_trade_26 : decode cX8_trade 26 = .ok (.putfield 93, 3) := by decide +kernel
theorem dX8_trade_29 : decode cX8_trade 29 = .ok (.aload_n 0, 1) := by decide +kernel
theorem dX8_trade_30 : decode cX8_trade 30 = .ok (.getfield 93, 3) := by decide +kernel
theorem dX8_trade_33 : decode cX8_trade 33 = .ok (.ifCond .le 5, 3) := by decide +kernel
theorem dX8_trade_36 : decode cX8_trade 36 = .ok (.iconst 0, 1) := by decide +kernel
theorem dX8_trade_37 : decode cX8_trade 37 = .ok (.ireturn, 1) := by decide +kernel
theorem dX8_trade_38 : decode cX8_trade 38 = .ok (.iload_n 2, 1) := by decide +kernel
theorem dX8_trade_39 : decode cX8_trade 39 = .ok (.tableswitch 127 0 9 #[53, 60, 67, 74, 81, 88, 95, 102, 109, 116], 53) := by decide +kernel
theorem dX8_trade_92 : decode cX8_trade 92 = .ok (.aload_n 0, 1) := by decide +kernel
theorem dX8_trade_93 : decode cX8_trade 93 = .ok (.getfield 48, 3) := by decide +kernel
theorem dX8_trade_96 : decode cX8_trade 96 = .ok (.iload_n 1, 1) := by decide +kernel
theorem dX8_trade_97 : decode cX8_trade 97 = .ok (.iaload, 1) := by decide +kernel
theorem dX8_trade_98 : decode cX8_trade 98 = .ok (.ireturn, 1) := by decide +kernel
theorem dX8_trade_99 : decode cX8_trade 99 = .ok (.aload_n 0, 1) := by decide +kernel
theorem dX8_trade_100 : decode cX8_trade 100 = .ok (.getfield 51, 3) := by decide +kernel
theorem dX8_trade_103 : decode cX8_trade 103 = .ok (.iload_n 1, 1) := by decide +kernel
theorem dX8_trade_104 : decode cX8_trade 104 = .ok (.iaload, 1) := by decide +kernel
theorem dX8_trade_105 : decode cX8_trade 105 = .ok (.ireturn, 1) := by decide +kernel
theorem dX8_trade_106 : decode cX8_trade 106 = .ok (.aload_n 0, 1) := by decide +kernel
theorem dX8_trade_107 : decode cX8_trade 107 = .ok (.getfield 27, 3) := by decide +kernel
theorem dX8_trade_110 : decode cX8_trade 110 = .ok (.iload_n 1, 1) := by decide +kernel
theorem dX8_trade_111 : decode cX8_trade 111 = .ok (.iaload, 1) := by decide +kernel
theorem dX8_trade_112 : decode cX8_trade 112 = .ok (.ireturn, 1) := by decide +kernel
theorem dX8_trade_113 : decode cX8_trade 113 = .ok (.aload_n 0, 1) := by decide +kernel
theorem dX8_trade_114 : decode cX8_trade 114 = .ok (.getfield 30, 3) := by decide +kernel
theorem dX8_trade_117 : decode cX8_trade 117 = .ok (.iload_n 1, 1) := by decide +kernel
theorem dX8_trade_118 : decode cX8_trade 118 = .ok (.iaload, 1) := by decide +kernel
theorem dX8_trade_119 : decode cX8_trade 119 = .ok (.ireturn, 1) := by decide +kernel
theorem dX8_trade_120 : decode cX8_trade 120 = .ok (.aload_n 0, 1) := by decide +kernel
theorem dX8_trade_121 : decode cX8_trade 121 = .ok (.getfield 17, 3) := by decide +kernel
theorem dX8_trade_124 : decode cX8_trade 124 = .ok (.iload_n 1, 1) := by decide +kernel
theorem dX8_trade_125 : decode cX8_trade 125 = .ok (.iaload, 1) := by decide +kernel
theorem dX8_trade_126 : decode cX8_trade 126 = .ok (.ireturn, 1) := by decide +kernel
theorem dX8_trade_127 : decode cX8_trade 127 = .ok (.aload_n 0, 1) := by decide +kernel
theorem dX8_trade_128 : decode cX8_trade 128 = .ok (.getfield 21, 3) := by decide +kernel
theorem dX8_trade_131 : decode cX8_trade 131 = .ok (.iload_n 1, 1) := by decide +kernel
theorem dX8_trade_132 : decode cX8_trade 132 = .ok (.iaload, 1) := by decide +kernel
theorem dX8_trade_133 : decode cX8_trade 133 = .ok (.ireturn, 1) := by decide +kernel
theorem dX8_trade_134 : decode cX8_trade 134 = .ok (.aload_n 0, 1) := by decide +kernel
theorem dX8_trade_135 : decode cX8_trade 135 = .ok (.getfield 24, 3) := by decide +kernel
theorem dX8_trade_138 : decode cX8_trade 138 = .ok (.iload_n 1, 1) := by decide +kernel
theorem dX8_trade_139 : decode cX8_trade 139 = .ok (.iaload, 1) := by decide +kernel
theorem dX8_trade_140 : decode cX8_trade 140 = .ok (.ireturn, 1) := by decide +kernel
theorem dX8_trade_141 : decode cX8_trade 141 = .ok (.aload_n 0, 1) := by decide +kernel
theorem dX8_trade_142 : decode cX8_trade 142 = .ok (.getfield 66, 3) := by decide +kernel
theorem dX8_trade_145 : decode cX8_trade 145 = .ok (.iload_n 1, 1) := by decide +kernel
theorem dX8_trade_146 : decode cX8_trade 146 = .ok (.iaload, 1) := by decide +kernel
theorem dX8_trade_147 : decode cX8_trade 147 = .ok (.ireturn, 1) := by decide +kernel
theorem dX8_trade_148 : decode cX8_trade 148 = .ok (.aload_n 0, 1) := by decide +kernel
theorem dX8_trade_149 : decode cX8_trade 149 = .ok (.getfield 60, 3) := by decide +kernel
theorem dX8_trade_152 : decode cX8_trade 152 = .ok (.iload_n 1, 1) := by decide +kernel
theorem dX8_trade_153 : decode cX8_trade 153 = .ok (.iaload, 1) := by decide +kernel
theorem dX8_trade_154 : decode cX8_trade 154 = .ok (.ireturn, 1) := by decide +kernel
theorem dX8_trade_155 : decode cX8_trade 155 = .ok (.aload_n 0, 1) := by decide +kernel
theorem dX8_trade_156 : decode cX8_trade 156 = .ok (.aload_n 0, 1) := by decide +kernel
theorem dX8_trade_157 : decode cX8_trade 157 = .ok (.getfield 69, 3) := by decide +kernel
theorem dX8_trade_160 : decode cX8_trade 160 = .ok (.iload_n 1, 1) := by decide +kernel
