theorem dX8_init_67 : decode cX8_init 67 = .ok (.aload_n 0, 1) := by decide +kernel
theorem dX8_init_68 : decode cX8_init 68 = .ok (.sipush 150, 3) := by decide +kernel
theorem dX8_init_71 : decode cX8_init 71 = .ok (.newarray .int, 2) := by decide +kernel
theorem dX8_init_73 : decode cX8_init 73 = .ok (.putfield 33, 3) := by decide +kernel
theorem dX8_init_76 : decode cX8_init 76 = .ok (.aload_n 0, 1) := by decide +kernel
theorem dX8_init_77 : decode cX8_init 77 = .ok (.sipush 150, 3) := by decide +kernel
theorem dX8_init_80 : decode cX8_init 80 = .ok (.newarray .int, 2) := by decide +kernel
theorem dX8_init_82 : decode cX8_init 82 = .ok (.putfield 36, 3) := by decide +kernel
theorem dX8_init_85 : decode cX8_init 85 = .ok (.aload_n 0, 1) := by decide +kernel
theorem dX8_init_86 : decode cX8_init 86 = .ok (.sipush 150, 3) := by decide +kernel
theorem dX8_init_89 : decode cX8_init 89 = .ok (.newarray .int, 2) := by decide +kernel
theorem dX8_init_91 : decode cX8_init 91 = .ok (.putfield 39, 3) := by decide +kernel
theorem dX8_init_94 : decode cX8_init 94 = .ok (.aload_n 0, 1) := by decide +kernel
theorem dX8_init_95 : decode cX8_init 95 = .ok (.sipush 150, 3) := by decide +kernel
theorem dX8_init_98 : decode cX8_init 98 = .ok (.newarray .int, 2) := by decide +kernel
theorem dX8_init_100 : decode cX8_init 100 = .ok (.putfield 42, 3) := by decide +kernel
theorem dX8_init_103 : decode cX8_init 103 = .ok (.aload_n 0, 1) := by decide +kernel
theorem dX8_init_104 : decode cX8_init 104 = .ok (.sipush 150, 3) := by decide +kernel
theorem dX8_init_107 : decode cX8_init 107 = .ok (.newarray .int, 2) := by decide +kernel
theorem dX8_init_109 : decode cX8_init 109 = .ok (.putfield 45, 3) := by decide +kernel
theorem dX8_init_112 : decode cX8_init 112 = .ok (.aload_n 0, 1) := by decide +kernel
theorem dX8_init_113 : decode cX8_init 113 = .ok (.sipush 150, 3) := by decide +kernel
theorem dX8_init_116 : decode cX8_init 116 = .ok (.newarray .int, 2) := by decide +kernel
theorem dX8_init_118 : decode cX8_init 118 = .ok (.putfield 48, 3) := by decide +kernel
theorem dX8_init_121 : decode cX8_init 121 = .ok (.aload_n 0, 1) := by decide +kernel
theorem dX8_init_122 : decode cX8_init 122 = .ok (.sipush 150, 3) := by decide +kernel
theorem dX8_init_125 : decode cX8_init 125 = .ok (.newarray .int, 2) := by decide +kernel
theorem dX8_init_127 : decode cX8_init 127 = .ok (.putfield 51, 3) := by decide +kernel
theorem dX8_init_130 : decode cX8_init 130 = .ok (.aload_n 0, 1) := by decide +kernel
theorem dX8_init_131 : decode cX8_init 131 = .ok (.sipush 150, 3) := by decide +kernel
theorem dX8_init_134 : decode cX8_init 134 = .ok (.newarray .int, 2) := by decide +kernel
theorem dX8_init_136 : decode cX8_init 136 = .ok (.putfield 54, 3) := by decide +kernel
theorem dX8_init_139 : decode cX8_init 139 = .ok (.aload_n 0, 1) := by decide +kernel
theorem dX8_init_140 : decode cX8_init 140 = .ok (.sipush 150, 3) := by decide +kernel
theorem dX8_init_143 : decode cX8_init 143 = .ok (.newarray .int, 2) := by decide +kernel
theorem dX8_init_145 : decode cX8_init 145 = .ok (.putfield 57, 3) := by decide +kernel
theorem dX8_init_148 : decode cX8_init 148 = .ok (.aload_n 0, 1) := by decide +kernel
theorem dX8_init_149 : decode cX8_init 149 = .ok (.sipush 150, 3) := by decide +kernel
theorem dX8_init_152 : decode cX8_init 152 = .ok (.newarray .int, 2) := by decide +kernel
theorem dX8_init_154 : decode cX8_init 154 = .ok (.putfield 60, 3) := by decide +kernel
theorem dX8_init_157 : decode cX8_init 157 = .ok (.aload_n 0, 1) := by decide +kernel
theorem dX8_init_158 : decode cX8_init 158 = .ok (.sipush 150, 3) := by decide +kernel
theorem dX8_init_161 : decode cX8_init 161 = .ok (.newarray .boolean, 2) := by decide +kernel
theorem dX8_init_163 : decode cX8_init 163 = .ok (.putfield 63, 3) := by decide +kernel
theorem dX8_init_166 : decode cX8_init 166 = .ok (.aload_n 0, 1) := by decide +kernel
theorem dX8_init_167 : decode cX8_init 167 = .ok (.sipush 150, 3) := by decide +kernel
theorem dX8_init_170 : decode cX8_init 170 = .ok (.newarray .int, 2) := by decide +kernel
theorem dX8_init_172 : decode cX8_init 172 = .ok (.putfield 66, 3) := by decide +kernel
theorem dX8_init_175 : decode cX8_init 175 = .ok (.aload_n 0, 1) := by decide +kernel
theorem dX8_init_176 : decode cX8_init 176 = .ok (.sipush 150, 3) := by decide +kernel
theorem dX8_init_179 : decode cX8_init 179 = .ok (.newarray .int, 2) := by decide +kernel
theorem dX8_init_181 : decode cX8_init 181 = .ok (.putfield 69, 3) := by decide +kernel
theorem dX8_init_184 : decode cX8_init 184 = .ok (.aload_n 0, 1) := by decide +kernel
theorem dX8_init_185 : decode cX8_init 185 = .ok (.sipush 2000, 3) := by decide +kernel
theorem dX8_init_188 : decode cX8_init 188 = .ok (.newarray .int, 2) := by decide +kernel
theorem dX8_init_190 : decode cX8_init 190 = .ok (.putfield 72, 3) := by decide +kernel
theorem dX8_init_193 : decode cX8_init 193 = .ok (.aload_n 0, 1) := by decide +kernel
theorem dX8_init_194 : decode cX8_init 194 = .ok (.sipush 2000, 3) := by decide +kernel
theorem dX8_init_197 : decode cX8_init 197 = .ok (.newarray .int, 2) := by decide +kernel
theorem dX8_init_199 : decode cX8_init 199 = .ok (.putfield 75, 3) := by decide +kernel
theorem dX8_init_202 : decode cX8_init 202 = .ok (.aload_n 0, 1) := by decide +kernel
theorem dX8_init_203 : decode cX8_init 203 = .ok (.sipush 2000, 3) := by decide +kernel
theorem dX8_init_206 : decode cX8_init 206 = .ok (.newarray .int, 2) := by decide +kernel
theorem dX8_init_208 : decode cX8_init 208 = .ok (.putfield 78, 3) := by decide +kernel
theorem dX8_init_211 : decode cX8_init 211 = .ok (.aload_n 0, 1) := by decide +kernel
theorem dX8_init_212 : decode cX8_init 212 = .ok (.sipush 2000, 3) := by decide +kernel
theorem dX8_init_215 : decode cX8_init 215 = .ok (.newarray .int, 2) := by decide +kernel
theorem dX8_init_217 : decode cX8_init 217 = .ok (.putfield 81, 3) := by decide +kernel
theorem dX8_init_220 : decode cX8_init 220 = .ok (.aload_n 0, 1) := by decide +kernel
theorem dX8_init_221 : decode cX8_init 221 = .ok (.sipush 150, 3) := by decide +kernel
theorem dX8_init_224 : decode cX8_init 224 = .ok (.newarray .int, 2) := by decide +kernel
theorem dX8_init_226 : decode cX8_init 226 = .ok (.putfield 84, 3) := by decide +kernel
theorem dX8_init_229 : decode cX8_init 229 = .ok (.aload_n 0, 1) := by decide +kernel
theorem dX8_init_230 : decode cX8_init 230 = .ok (.sipush 144, 3) := by decide +kernel
theorem dX8_init_233 : decode cX8_init 233 = .ok (.newarray .long, 2) := by decide +kernel
theorem dX8_init_235 : decode cX8_init 235 = .ok (.putfield 87, 3) := by decide +kernel
theorem dX8_init_238 : decode cX8_init 238 = .ok (.aload_n 0, 1) := by decide +kernel
theorem dX8_init_239 : decode cX8_init 239 = .ok (.bipush 7, 2) := by decide +kernel
theorem dX8_init_241 : decode cX8_init 241 = .ok (.newarray .int, 2) := by decide +kernel
theorem dX8_init_243 : decode cX8_init 243 = .ok (.putfield 90, 3) := by decide +kernel
theorem dX8_init_246 : decode cX8_init 246 = .ok (.return_, 1) := by decide +kernel
theorem dX8_in_0 : decode cX8_in 0 = .ok (.lload_n 0, 1) := by decide +kernel
theorem dX8_in_1 : decode cX8_in 1 = .ok (.lload_n 2, 1) := by decide +kernel
theorem dX8_in_2 : decode cX8_in 2 = .ok (.lcmp, 1) := by decide +kernel
theorem dX8_in_3 : decode cX8_in 3 = .ok (.ifCond .lt 14, 3) := by decide +kernel
theorem dX8_in_6 : decode cX8_in 6 = .ok (.lload_n 0, 1) := by decide +kernel
theorem dX8_in_7 : decode cX8_in 7 = .ok (.lload 4, 2) := by decide +kernel
theorem dX8_in_9 : decode cX8_in 9 = .ok (.lcmp, 1) := by decide +kernel
theorem dX8_in_10 : decode cX8_in 10 = .ok (.ifCond .gt 7, 3) := by decide +kernel
theorem dX8_in_13 : decode cX8_in 13 = .ok (.iconst 1, 1) := by decide +kernel
theorem dX8_in_14 : decode cX8_in 14 = .ok (.goto 4, 3) := by decide +kernel
theorem dX8_in_17 : decode cX8_in 17 = .ok (.iconst 0, 1) := by decide +kernel
theorem dX8_in_18 : decode cX8_in 18 = .ok (.ireturn, 1) := by decide +kernel
theorem dX8_isParty_0 : decode cX8_isParty 0 = .ok (.iload_n 0, 1) := by decide +kernel
theorem dX8_isParty_1 : decode cX8_isParty 1 = .ok (.i2l, 1) := by decide +kernel
theorem dX8_isParty_2 : decode cX8_isParty 2 = .ok (.lconst 0, 1) := by decide +kernel
theorem dX8_isParty_3 : decode cX8_isParty 3 = .ok (.ldc2_w 97, 3) := by decide +kernel
theorem dX8_isParty_6 : decode cX8_isParty 6 = .ok (.invokestatic 99, 3) := by decide +kernel
theorem dX8_isParty_9 : decode cX8_isParty 9 = .ok (.ireturn, 1) := by decide +kernel
theorem dX8_isKind_0 : decode cX8_isKind 0 = .ok (.iload_n 0, 1) := by decide +kernel
theorem dX8_isKind_1 : decode cX8_isKind 1 = .ok (.i2l, 1) := by decide +kernel
theorem dX8_isKind_2 : decode cX8_isKind 2 = .ok (.ldc2_w 103, 3) := by decide +kernel
theorem dX8_isKind_5 : decode cX8_isKind 5 = .ok (.ldc2_w 105, 3) := by decide +kernel
theorem dX8_isKind_8 : decode cX8_isKind 8 = .ok (.invokestatic 99, 3) := by decide +kernel
theorem dX8_isKind_11 : decode cX8_isKind 11 = .ok (.ireturn, 1) := by decide +kernel
theorem dX8_isTrade_0 : decode cX8_isTrade 0 = .ok (.iload_n 1, 1) := by decide +kernel
theorem dX8_isTrade_1 : decode cX8_isTrade 1 = .ok (.i2l, 1) := by decide +kernel
theorem dX8_isTrade_2 : decode cX8_isTrade 2 = .ok (.lconst 0, 1) := by decide +kernel
theorem dX8_isTrade_3 : decode cX8_isTrade 3 = .ok (.aload_n 0, 1) := by decide +kernel
theorem dX8_isTrade_4 : decode cX8_isTrade 4 = .ok (.getfield 107, 3) := by decide +kernel
theorem dX8_isTrade_7 : decode cX8_isTrade 7 = .ok (.iconst 1, 1) := by decide +kernel
theorem dX8_isTrade_8 : decode cX8_isTrade 8 = .ok (.isub, 1) := by decide +kernel
theorem dX8_isTrade_9 : decode cX8_isTrade 9 = .ok (.i2l, 1) := by decide +kernel
theorem dX8_isTrade_10 : decode cX8_isTrade 10 = .ok (.invokestatic 99, 3) := by decide +kernel
theorem dX8_isTrade_13 : decode cX8_isTrade 13 = .ok (.ireturn, 1) := by decide +kernel
theorem dX8_weekday_0 : decode cX8_weekday 0 = .ok (.iload_n 0, 1) := by decide +kernel
theorem dX8_weekday_1 : decode cX8_weekday 1 = .ok (.iconst 3, 1) := by decide +kernel
theorem dX8_weekday_2 : decode cX8_weekday 2 = .ok (.iadd, 1) := by decide +kernel
theorem dX8_weekday_3 : decode cX8_weekday 3 = .ok (.bipush 7, 2) := by decide +kernel
theorem dX8_weekday_5 : decode cX8_weekday 5 = .ok (.irem, 1) := by decide +kernel
theorem dX8_weekday_6 : decode cX8_weekday 6 = .ok (.iconst 1, 1) := by decide +kernel
theorem dX8_weekday_7 : decode cX8_weekday 7 = .ok (.iadd, 1) := by decide +kernel
theorem dX8_weekday_8 : decode cX8_weekday 8 = .ok (.ireturn, 1) := by decide +kernel
theorem dX8_businessDay_0 : decode cX8_businessDay 0 = .ok (.iload_n 1, 1) := by decide +kernel
theorem dX8_businessDay_1 : decode cX8_businessDay 1 = .ok (.istore_n 3, 1) := by decide +kernel
theorem dX8_businessDay_2 : decode cX8_businessDay 2 = .ok (.iload_n 2, 1) := by decide +kernel
theorem dX8_businessDay_3 : decode cX8_businessDay 3 = .ok (.istore 4, 2) := by decide +kernel
theorem dX8_businessDay_5 : decode cX8_businessDay 5 = .ok (.iload 4, 2) := by decide +kernel
theorem dX8_businessDay_7 : decode cX8_businessDay 7 = .ok (.ifCond .le 55, 3) := by decide +kernel
theorem dX8_businessDay_10 : decode cX8_businessDay 10 = .ok (.iinc 3 1, 3) := by decide +kernel
theorem dX8_businessDay_13 : decode cX8_businessDay 13 = .ok (.iload_n 3, 1) := by decide +kernel
theorem dX8_businessDay_14 : decode cX8_businessDay 14 = .ok (.invokestatic 110, 3) := by decide +kernel
theorem dX8_businessDay_17 : decode cX8_businessDay 17 = .ok (.iconst 5, 1) := by decide +kernel
theorem dX8_businessDay_18 : decode cX8_businessDay 18 = .ok (.if_icmp .gt 19, 3) := by decide +kernel
theorem dX8_businessDay_21 : decode cX8_businessDay 21 = .ok (.iload_n 3, 1) := by decide +kernel
theorem dX8_businessDay_22 : decode cX8_businessDay 22 = .ok (.sipush 20000, 3) := by decide +kernel
theorem dX8_businessDay_25 : decode cX8_businessDay 25 = .ok (.if_icmp .gt 16, 3) := by decide +kernel
theorem dX8_businessDay_28 : decode cX8_businessDay 28 = .ok (.aload_n 0, 1) := by decide +kernel
theorem dX8_businessDay_29 : decode cX8_businessDay 29 = .ok (.getfield 7, 3) := by decide +kernel
theorem dX8_businessDay_32 : decode cX8_businessDay 32 = .ok (.iload_n 3, 1) := by decide +kernel
theorem dX8_businessDay_33 : decode cX8_businessDay 33 = .ok (.baload, 1) := by decide +kernel
theorem dX8_businessDay_34 : decode cX8_businessDay 34 = .ok (.ifCond .eq 7, 3) := by decide +kernel
theorem dX8_businessDay_37 : decode cX8_businessDay 37 = .ok (.iconst 1, 1) := by decide +kernel
theorem dX8_businessDay_38 : decode cX8_businessDay 38 = .ok (.goto 4, 3) := by decide +kernel
theorem dX8_businessDay_41 : decode cX8_businessDay 41 = .ok (.iconst 0, 1) := by decide +kernel
theorem dX8_businessDay_42 : decode cX8_businessDay 42 = .ok (.istore 5, 2) := by decide +kernel
theorem dX8_businessDay_44 : decode cX8_businessDay 44 = .ok (.iload 4, 2) := by decide +kernel
theorem dX8_businessDay_46 : decode cX8_businessDay 46 = .ok (.iload 5, 2) := by decide +kernel
theorem dX8_businessDay_48 : decode cX8_businessDay 48 = .ok (.ifCond .eq 7, 3) := by decide +kernel
theorem dX8_businessDay_51 : decode cX8_businessDay 51 = .ok (.iconst 0, 1) := by decide +kernel
theorem dX8_businessDay_52 : decode cX8_businessDay 52 = .ok (.goto 4, 3) := by decide +kernel
theorem dX8_businessDay_55 : decode cX8_businessDay 55 = .ok (.iconst 1, 1) := by decide +kernel
theorem dX8_businessDay_56 : decode cX8_businessDay 56 = .ok (.isub, 1) := by decide +kernel
theorem dX8_businessDay_57 : decode cX8_businessDay 57 = .ok (.istore 4, 2) := by decide +kernel
theorem dX8_businessDay_59 : decode cX8_businessDay 59 = .ok (.goto (-54), 3) := by decide +kernel
theorem dX8_businessDay_62 : decode cX8_businessDay 62 = .ok (.iload_n 3, 1) := by decide +kernel
theorem dX8_businessDay_63 : decode cX8_businessDay 63 = .ok (.ireturn, 1) := by decide +kernel
theorem dX8_isLeap_0 : decode cX8_isLeap 0 = .ok (.iload_n 0, 1) := by decide +kernel
theorem dX8_isLeap_1 : decode cX8_isLeap 1 = .ok (.iconst 4, 1) := by decide +kernel
theorem dX8_isLeap_2 : decode cX8_isLeap 2 = .ok (.irem, 1) := by decide +kernel
theorem dX8_isLeap_3 : decode cX8_isLeap 3 = .ok (.ifCond .ne 22, 3) := by decide +kernel
theorem dX8_isLeap_6 : decode cX8_isLeap 6 = .ok (.iload_n 0, 1) := by decide +kernel
theorem dX8_isLeap_7 : decode cX8_isLeap 7 = .ok (.bipush 100, 2) := by decide +kernel
theorem dX8_isLeap_9 : decode cX8_isLeap 9 = .ok (.irem, 1) := by decide +kernel
theorem dX8_isLeap_10 : decode cX8_isLeap 10 = .ok (.ifCond .ne 11, 3) := by decide +kernel
theorem dX8_isLeap_13 : decode cX8_isLeap 13 = .ok (.iload_n 0, 1) := by decide +kernel
theorem dX8_isLeap_14 : decode cX8_isLeap 14 = .ok (.sipush 400, 3) := by decide +kernel
theorem dX8_isLeap_17 : decode cX8_isLeap 17 = .ok (.irem, 1) := by decide +kernel
theorem dX8_isLeap_18 : decode cX8_isLeap 18 = .ok (.ifCond .ne 7, 3) := by decide +kernel
theorem dX8_isLeap_21 : decode cX8_isLeap 21 = .ok (.iconst 1, 1) := by decide +kernel
theorem dX8_isLeap_22 : decode cX8_isLeap 22 = .ok (.goto 4, 3) := by decide +kernel
theorem dX8_isLeap_25 : decode cX8_isLeap 25 = .ok (.iconst 0, 1) := by decide +kernel
theorem dX8_isLeap_26 : decode cX8_isLeap 26 = .ok (.ireturn, 1) := by decide +kernel
theorem dX8_lengthOf_0 : decode cX8_lengthOf 0 = .ok (.iload_n 1, 1) := by decide +kernel
theorem dX8_lengthOf_1 : decode cX8_lengthOf 1 = .ok (.iconst 4, 1) := by decide +kernel
theorem dX8_lengthOf_2 : decode cX8_lengthOf 2 = .ok (.if_icmp .eq 21, 3) := by decide +kernel
theorem dX8_lengthOf_5 : decode cX8_lengthOf 5 = .ok (.iload_n 1, 1) := by decide +kernel
theorem dX8_lengthOf_6 : decode cX8_lengthOf 6 = .ok (.bipush 6, 2) := by decide +kernel
theorem dX8_lengthOf_8 : decode cX8_lengthOf 8 = .ok (.if_icmp .eq 15, 3) := by decide +kernel
theorem dX8_lengthOf_11 : decode cX8_lengthOf 11 = .ok (.iload_n 1, 1) := by decide +kernel
theorem dX8_lengthOf_12 : decode cX8_lengthOf 12 = .ok (.bipush 9, 2) := by decide +kernel
theorem dX8_lengthOf_14 : decode cX8_lengthOf 14 = .ok (.if_icmp .eq 9, 3) := by decide +kernel
theorem dX8_lengthOf_17 : decode cX8_lengthOf 17 = .ok (.iload_n 1, 1) := by decide +kernel
theorem dX8_lengthOf_18 : decode cX8_lengthOf 18 = .ok (.bipush 11, 2) := by decide +kernel
theorem dX8_lengthOf_20 : decode cX8_lengthOf 20 = .ok (.if_icmp .ne 7, 3) := by decide +kernel
theorem dX8_lengthOf_23 : decode cX8_lengthOf 23 = .ok (.iconst 1, 1) := by decide +kernel
theorem dX8_lengthOf_24 : decode cX8_lengthOf 24 = .ok (.goto 4, 3) := by decide +kernel
theorem dX8_lengthOf_27 : decode cX8_lengthOf 27 = .ok (.iconst 0, 1) := by decide +kernel
theorem dX8_lengthOf_28 : decode cX8_lengthOf 28 = .ok (.istore_n 2, 1) := by decide +kernel
theorem dX8_lengthOf_29 : decode cX8_lengthOf 29 = .ok (.iload_n 1, 1) := by decide +kernel
theorem dX8_lengthOf_30 : decode cX8_lengthOf 30 = .ok (.iconst 2, 1) := by decide +kernel
theorem dX8_lengthOf_31 : decode cX8_lengthOf 31 = .ok (.if_icmp .ne 20, 3) := by decide +kernel
theorem dX8_lengthOf_34 : decode cX8_lengthOf 34 = .ok (.iload_n 0, 1) := by decide +kernel
theorem dX8_lengthOf_35 : decode cX8_lengthOf 35 = .ok (.invokestatic 114, 3) := by decide +kernel
theorem dX8_lengthOf_38 : decode cX8_lengthOf 38 = .ok (.ifCond .eq 8, 3) := by decide +kernel
theorem dX8_lengthOf_41 : decode cX8_lengthOf 41 = .ok (.bipush 29, 2) := by decide +kernel
theorem dX8_lengthOf_43 : decode cX8_lengthOf 43 = .ok (.goto 19, 3) := by decide +kernel
theorem dX8_lengthOf_46 : decode cX8_lengthOf 46 = .ok (.bipush 28, 2) := by decide +kernel
theorem dX8_lengthOf_48 : decode cX8_lengthOf 48 = .ok (.goto 14, 3) := by decide +kernel
theorem dX8_lengthOf_51 : decode cX8_lengthOf 51 = .ok (.iload_n 2, 1) := by decide +kernel
theorem dX8_lengthOf_52 : decode cX8_lengthOf 52 = .ok (.ifCond .eq 8, 3) := by decide +kernel
theorem dX8_lengthOf_55 : decode cX8_lengthOf 55 = .ok (.bipush 30, 2) := by decide +kernel
theorem dX8_lengthOf_57 : decode cX8_lengthOf 57 = .ok (.goto 5, 3) := by decide +kernel
theorem dX8_lengthOf_60 : decode cX8_lengthOf 60 = .ok (.bipush 31, 2) := by decide +kernel
theorem dX8_lengthOf_62 : decode cX8_lengthOf 62 = .ok (.ireturn, 1) := by decide +kernel
theorem dX8_place_0 : decode cX8_place 0 = .ok (.bipush 9, 2) := by decide +kernel
theorem dX8_place_2 : decode cX8_place 2 = .ok (.iload_n 0, 1) := by decide +kernel
theorem dX8_place_3 : decode cX8_place 3 = .ok (.imul, 1) := by decide +kernel
theorem dX8_place_4 : decode cX8_place 4 = .ok (.iload_n 1, 1) := by decide +kernel
theorem dX8_place_5 : decode cX8_place 5 = .ok (.iadd, 1) := by decide +kernel
theorem dX8_place_6 : decode cX8_place 6 = .ok (.iconst 1, 1) := by decide +kernel
theorem dX8_place_7 : decode cX8_place 7 = .ok (.iadd, 1) := by decide +kernel
theorem dX8_place_8 : decode cX8_place 8 = .ok (.ireturn, 1) := by decide +kernel
theorem dX8_move_0 : decode cX8_move 0 = .ok (.aload 4, 2) := by decide +kernel
theorem dX8_move_2 : decode cX8_move 2 = .ok (.aload_n 0, 1) := by decide +kernel
theorem dX8_move_3 : decode cX8_move 3 = .ok (.getfield 17, 3) := by decide +kernel
theorem dX8_move_6 : decode cX8_move 6 = .ok (.iload_n 1, 1) := by decide +kernel
theorem dX8_move_7 : decode cX8_move 7 = .ok (.iaload, 1) := by decide +kernel
theorem dX8_move_8 : decode cX8_move 8 = .ok (.aload_n 0, 1) := by decide +kernel
theorem dX8_move_9 : decode cX8_move 9 = .ok (.getfield 24, 3) := by decide +kernel
theorem dX8_move_12 : decode cX8_move 12 = .ok (.iload_n 1, 1) := by decide +kernel
theorem dX8_move_13 : decode cX8_move 13 = .ok (.iaload, 1) := by decide +kernel
theorem dX8_move_14 : decode cX8_move 14 = .ok (.invokestatic 118, 3) := by decide +kernel
theorem dX8_move_17 : decode cX8_move 17 = .ok (.dup2, 1) := by decide +kernel
theorem dX8_move_18 : decode cX8_move 18 = .ok (.laload, 1) := by decide +kernel
theorem dX8_move_19 : decode cX8_move 19 = .ok (.iload_n 2, 1) := by decide +kernel
theorem dX8_move_20 : decode cX8_move 20 = .ok (.i2l, 1) := by decide +kernel
theorem dX8_move_21 : decode cX8_move 21 = .ok (.lsub, 1) := by decide +kernel
theorem dX8_move_22 : decode cX8_move 22 = .ok (.lastore, 1) := by decide +kernel
theorem dX8_move_23 : decode cX8_move 23 = .ok (.aload 4, 2) := by decide +kernel
theorem dX8_move_25 : decode cX8_move 25 = .ok (.aload_n 0, 1) := by decide +kernel
theorem dX8_move_26 : decode cX8_move 26 = .ok (.getfield 21, 3) := by decide +kernel
theorem dX8_move_29 : decode cX8_move 29 = .ok (.iload_n 1, 1) := by decide +kernel
theorem dX8_move_30 : decode cX8_move 30 = .ok (.iaload, 1) := by decide +kernel
theorem dX8_move_31 : decode cX8_move 31 = .ok (.aload_n 0, 1) := by decide +kernel
theorem dX8_move_32 : decode cX8_move 32 = .ok (.getfield 24, 3) := by decide +kernel
theorem dX8_move_35 : decode cX8_move 35 = .ok (.iload_n 1, 1) := by decide +kernel
theorem dX8_move_36 : decode cX8_move 36 = .ok (.iaload, 1) := by decide +kernel
theorem dX8_move_37 : decode cX8_move 37 = .ok (.invokestatic 118, 3) := by decide +kernel
theorem dX8_move_40 : decode cX8_move 40 = .ok (.dup2, 1) := by decide +kernel
theorem dX8_move_41 : decode cX8_move 41 = .ok (.laload, 1) := by decide +kernel
theorem dX8_move_42 : decode cX8_move 42 = .ok (.iload_n 2, 1) := by decide +kernel
theorem dX8_move_43 : decode cX8_move 43 = .ok (.i2l, 1) := by decide +kernel
theorem dX8_move_44 : decode cX8_move 44 = .ok (.ladd, 1) := by decide +kernel
theorem dX8_move_45 : decode cX8_move 45 = .ok (.lastore, 1) := by decide +kernel
theorem dX8_move_46 : decode cX8_move 46 = .ok (.aload 4, 2) := by decide +kernel
theorem dX8_move_48 : decode cX8_move 48 = .ok (.aload_n 0, 1) := by decide +kernel
theorem dX8_move_49 : decode cX8_move 49 = .ok (.getfield 21, 3) := by decide +kernel
theorem dX8_move_52 : decode cX8_move 52 = .ok (.iload_n 1, 1) := by decide +kernel
theorem dX8_move_53 : decode cX8_move 53 = .ok (.iaload, 1) := by decide +kernel
theorem dX8_move_54 : decode cX8_move 54 = .ok (.iconst (-1), 1) := by decide +kernel
theorem dX8_move_55 : decode cX8_move 55 = .ok (.invokestatic 118, 3) := by decide +kernel
theorem dX8_move_58 : decode cX8_move 58 = .ok (.dup2, 1) := by decide +kernel
theorem dX8_move_59 : decode cX8_move 59 = .ok (.laload, 1) := by decide +kernel
theorem dX8_move_60 : decode cX8_move 60 = .ok (.iload_n 3, 1) := by decide +kernel
theorem dX8_move_61 : decode cX8_move 61 = .ok (.i2l, 1) := by decide +kernel
theorem dX8_move_62 : decode cX8_move 62 = .ok (.lsub, 1) := by decide +kernel
theorem dX8_move_63 : decode cX8_move 63 = .ok (.lastore, 1) := by decide +kernel
theorem dX8_move_64 : decode cX8_move 64 = .ok (.aload 4, 2) := by decide +kernel
theorem dX8_move_66 : decode cX8_move 66 = .ok (.aload_n 0, 1) := by decide +kernel
theorem dX8_move_67 : decode cX8_move 67 = .ok (.getfield 17, 3) := by decide +kernel
theorem dX8_move_70 : decode cX8_move 70 = .ok (.iload_n 1, 1) := by decide +kernel
theorem dX8_move_71 : decode cX8_move 71 = .ok (.iaload, 1) := by decide +kernel
theorem dX8_move_72 : decode cX8_move 72 = .ok (.iconst (-1), 1) := by decide +kernel
theorem dX8_move_73 : decode cX8_move 73 = .ok (.invokestatic 118, 3) := by decide +kernel
theorem dX8_move_76 : decode cX8_move 76 = .ok (.dup2, 1) := by decide +kernel
theorem dX8_move_77 : decode cX8_move 77 = .ok (.laload, 1) := by decide +kernel
theorem dX8_move_78 : decode cX8_move 78 = .ok (.iload_n 3, 1) := by decide +kernel
theorem dX8_move_79 : decode cX8_move 79 = .ok (.i2l, 1) := by decide +kernel
theorem dX8_move_80 : decode cX8_move 80 = .ok (.ladd, 1) := by decide +kernel
theorem dX8_move_81 : decode cX8_move 81 = .ok (.lastore, 1) := by decide +kernel
theorem dX8_move_82 : decode cX8_move 82 = .ok (.return_, 1) := by decide +kernel
theorem dX8_isCovered_0 : decode cX8_isCovered 0 = .ok (.iconst 0, 1) := by decide +kernel
theorem dX8_isCovered_1 : decode cX8_isCovered 1 = .ok (.istore_n 2, 1) := by decide +kernel
theorem dX8_isCovered_2 : decode cX8_isCovered 2 = .ok (.iload_n 2, 1) := by decide +kernel
theorem dX8_isCovered_3 : decode cX8_isCovered 3 = .ok (.sipush 144, 3) := by decide +kernel
theorem dX8_isCovered_6 : decode cX8_isCovered 6 = .ok (.if_icmp .ge 16, 3) := by decide +kernel
theorem dX8_isCovered_9 : decode cX8_isCovered 9 = .ok (.aload_n 0, 1) := by decide +kernel
theorem dX8_isCovered_10 : decode cX8_isCovered 10 = .ok (.getfield 87, 3) := by decide +kernel
theorem dX8_isCovered_13 : decode cX8_isCovered 13 = .ok (.iload_n 2, 1) := by decide +kernel
theorem dX8_isCovered_14 : decode cX8_isCovered 14 = .ok (.lconst 0, 1) := by decide +kernel
theorem dX8_isCovered_15 : decode cX8_isCovered 15 = .ok (.lastore, 1) := by decide +kernel
theorem dX8_isCovered_16 : decode cX8_isCovered 16 = .ok (.iinc 2 1, 3) := by decide +kernel
theorem dX8_isCovered_19 : decode cX8_isCovered 19 = .ok (.goto (-17), 3) := by decide +kernel
theorem dX8_isCovered_22 : decode cX8_isCovered 22 = .ok (.iconst 0, 1) := by decide +kernel
theorem dX8_isCovered_23 : decode cX8_isCovered 23 = .ok (.istore_n 2, 1) := by decide +kernel
theorem dX8_isCovered_24 : decode cX8_isCovered 24 = .ok (.iload_n 2, 1) := by decide +kernel
theorem dX8_isCovered_25 : decode cX8_isCovered 25 = .ok (.aload_n 0, 1) := by decide +kernel
theorem dX8_isCovered_26 : decode cX8_isCovered 26 = .ok (.getfield 107, 3) := by decide +kernel
theorem dX8_isCovered_29 : decode cX8_isCovered 29 = .ok (.if_icmp .ge 40, 3) := by decide +kernel
theorem dX8_isCovered_32 : decode cX8_isCovered 32 = .ok (.aload_n 0, 1) := by decide +kernel
theorem dX8_isCovered_33 : decode cX8_isCovered 33 = .ok (.getfield 69, 3) := by decide +kernel
theorem dX8_isCovered_36 : decode cX8_isCovered 36 = .ok (.iload_n 2, 1) := by decide +kernel
theorem dX8_isCovered_37 : decode cX8_isCovered 37 = .ok (.iaload, 1) := by decide +kernel
theorem dX8_isCovered_38 : decode cX8_isCovered 38 = .ok (.iload_n 1, 1) := by decide +kernel
theorem dX8_isCovered_39 : decode cX8_isCovered 39 = .ok (.if_icmp .ne 24, 3) := by decide +kernel
theorem dX8_isCovered_42 : decode cX8_isCovered 42 = .ok (.aload_n 0, 1) := by decide +kernel
theorem dX8_isCovered_43 : decode cX8_isCovered 43 = .ok (.iload_n 2, 1) := by decide +kernel
theorem dX8_isCovered_44 : decode cX8_isCovered 44 = .ok (.aload_n 0, 1) := by decide +kernel
theorem dX8_isCovered_45 : decode cX8_isCovered 45 = .ok (.getfield 27, 3) := by decide +kernel
theorem dX8_isCovered_48 : decode cX8_isCovered 48 = .ok (.iload_n 2, 1) := by decide +kernel
theorem dX8_isCovered_49 : decode cX8_isCovered 49 = .ok (.iaload, 1) := by decide +kernel
theorem dX8_isCovered_50 : decode cX8_isCovered 50 = .ok (.aload_n 0, 1) := by decide +kernel
theorem dX8_isCovered_51 : decode cX8_isCovered 51 = .ok (.getfield 30, 3) := by decide +kernel
theorem dX8_isCovered_54 : decode cX8_isCovered 54 = .ok (.iload_n 2, 1) := by decide +kernel
theorem dX8_isCovered_55 : decode cX8_isCovered 55 = .ok (.iaload, 1) := by decide +kernel
theorem dX8_isCovered_56 : decode cX8_isCovered 56 = .ok (.aload_n 0, 1) := by decide +kernel
theorem dX8_isCovered_57 : decode cX8_isCovered 57 = .ok (.getfield 87, 3) := by decide +kernel
theorem dX8_isCovered_60 : decode cX8_isCovered 60 = .ok (.invokevirtual 122, 3) := by decide +kernel
theorem dX8_isCovered_63 : decode cX8_isCovered 63 = .ok (.iinc 2 1, 3) := by decide +kernel
theorem dX8_isCovered_66 : decode cX8_isCovered 66 = .ok (.goto (-42), 3) := by decide +kernel
theorem dX8_isCovered_69 : decode cX8_isCovered 69 = .ok (.iconst 1, 1) := by decide +kernel
theorem dX8_isCovered_70 : decode cX8_isCovered 70 = .ok (.istore_n 2, 1) := by decide +kernel
theorem dX8_isCovered_71 : decode cX8_isCovered 71 = .ok (.iconst 0, 1) := by decide +kernel
theorem dX8_isCovered_72 : decode cX8_isCovered 72 = .ok (.istore_n 3, 1) := by decide +kernel
theorem dX8_isCovered_73 : decode cX8_isCovered 73 = .ok (.iload_n 3, 1) := by decide +kernel
theorem dX8_isCovered_74 : decode cX8_isCovered 74 = .ok (.sipush 144, 3) := by decide +kernel
theorem dX8_isCovered_77 : decode cX8_isCovered 77 = .ok (.if_icmp .ge 48, 3) := by decide +kernel
theorem dX8_isCovered_80 : decode cX8_isCovered 80 = .ok (.iload_n 2, 1) := by decide +kernel
theorem dX8_isCovered_81 : decode cX8_isCovered 81 = .ok (.ifCond .eq 36, 3) := by decide +kernel
theorem dX8_isCovered_84 : decode cX8_isCovered 84 = .ok (.aload_n 0, 1) := by decide +kernel
theorem dX8_isCovered_85 : decode cX8_isCovered 85 = .ok (.getfield 87, 3) := by decide +kernel
theorem dX8_isCovered_88 : decode cX8_isCovered 88 = .ok (.iload_n 3, 1) := by decide +kernel
theorem dX8_isCovered_89 : decode cX8_isCovered 89 = .ok (.laload, 1) := by decide +kernel
theorem dX8_isCovered_90 : decode cX8_isCovered 90 = .ok (.lconst 0, 1) := by decide +kernel
theorem dX8_isCovered_91 : decode cX8_isCovered 91 = .ok (.lcmp, 1) := by decide +kernel
theorem dX8_isCovered_92 : decode cX8_isCovered 92 = .ok (.ifCond .eq 21, 3) := by decide +kernel
theorem dX8_isCovered_95 : decode cX8_isCovered 95 = .ok (.aload_n 0, 1) := by decide +kernel
theorem dX8_isCovered_96 : decode cX8_isCovered 96 = .ok (.getfield 13, 3) := by decide +kernel
theorem dX8_isCovered_99 : decode cX8_isCovered 99 = .ok (.iload_n 3, 1) := by decide +kernel
theorem dX8_isCovered_100 : decode cX8_isCovered 100 = .ok (.laload, 1) := by decide +kernel
theorem dX8_isCovered_101 : decode cX8_isCovered 101 = .ok (.aload_n 0, 1) := by decide +kernel
theorem dX8_isCovered_102 : decode cX8_isCovered 102 = .ok (.getfield 87, 3) := by decide +kernel
theorem dX8_isCovered_105 : decode cX8_isCovered 105 = .ok (.iload_n 3, 1) := by decide +kernel
theorem dX8_isCovered_106 : decode cX8_isCovered 106 = .ok (.laload, 1) := by decide +kernel
theorem dX8_isCovered_107 : decode cX8_isCovered 107 = .ok (.ladd, 1) := by decide +kernel
theorem dX8_isCovered_108 : decode cX8_isCovered 108 = .ok (.lconst 0, 1) := by decide +kernel
theorem dX8_isCovered_109 : decode cX8_isCovered 109 = .ok (.lcmp, 1) := by decide +kernel
theorem dX8_isCovered_110 : decode cX8_isCovered 110 = .ok (.ifCond .lt 7, 3) := by decide +kernel
theorem dX8_isCovered_113 : decode cX8_isCovered 113 = .ok (.iconst 1, 1) := by decide +kernel
theorem dX8_isCovered_114 : decode cX8_isCovered 114 = .ok (.goto 4, 3) := by decide +kernel
theorem dX8_isCovered_117 : decode cX8_isCovered 117 = .ok (.iconst 0, 1) := by decide +kernel
theorem dX8_isCovered_118 : decode cX8_isCovered 118 = .ok (.istore_n 2, 1) := by decide +kernel
theorem dX8_isCovered_119 : decode cX8_isCovered 119 = .ok (.iinc 3 1, 3) := by decide +kernel
theorem dX8_isCovered_122 : decode cX8_isCovered 122 = .ok (.goto (-49), 3) := by decide +kernel
theorem dX8_isCovered_125 : decode cX8_isCovered 125 = .ok (.iload_n 2, 1) := by decide +kernel
theorem dX8_isCovered_126 : decode cX8_isCovered 126 = .ok (.ireturn, 1) := by decide +kernel
theorem dX8_settle_0 : decode cX8_settle 0 = .ok (.aload_n 0, 1) := by decide +kernel
theorem dX8_settle_1 : decode cX8_settle 1 = .ok (.iload_n 1, 1) := by decide +kernel
theorem dX8_settle_2 : decode cX8_settle 2 = .ok (.iload_n 2, 1) := by decide +kernel
theorem dX8_settle_3 : decode cX8_settle 3 = .ok (.iload_n 3, 1) := by decide +kernel
theorem dX8_settle_4 : decode cX8_settle 4 = .ok (.aload_n 0, 1) := by decide +kernel
theorem dX8_settle_5 : decode cX8_settle 5 = .ok (.getfield 13, 3) := by decide +kernel
theorem dX8_settle_8 : decode cX8_settle 8 = .ok (.invokevirtual 122, 3) := by decide +kernel
theorem dX8_settle_11 : decode cX8_settle 11 = .ok (.aload_n 0, 1) := by decide +kernel
theorem dX8_settle_12 : decode cX8_settle 12 = .ok (.getfield 27, 3) := by decide +kernel
theorem dX8_settle_15 : decode cX8_settle 15 = .ok (.iload_n 1, 1) := by decide +kernel
theorem dX8_settle_16 : decode cX8_settle 16 = .ok (.dup2, 1) := by decide +kernel
theorem dX8_settle_17 : decode cX8_settle 17 = .ok (.iaload, 1) := by decide +kernel
theorem dX8_settle_18 : decode cX8_settle 18 = .ok (.iload_n 2, 1) := by decide +kernel
theorem dX8_settle_19 : decode cX8_settle 19 = .ok (.isub, 1) := by decide +kernel
theorem dX8_settle_20 : decode cX8_settle 20 = .ok (.iastore, 1) := by decide +kernel
theorem dX8_settle_21 : decode cX8_settle 21 = .ok (.aload_n 0, 1) := by decide +kernel
theorem dX8_settle_22 : decode cX8_settle 22 = .ok (.getfield 30, 3) := by decide +kernel
theorem dX8_settle_25 : decode cX8_settle 25 = .ok (.iload_n 1, 1) := by decide +kernel
theorem dX8_settle_26 : decode cX8_settle 26 = .ok (.dup2, 1) := by decide +kernel
theorem dX8_settle_27 : decode cX8_settle 27 = .ok (.iaload, 1) := by decide +kernel
theorem dX8_settle_28 : decode cX8_settle 28 = .ok (.iload_n 3, 1) := by decide +kernel
theorem dX8_settle_29 : decode cX8_settle 29 = .ok (.isub, 1) := by decide +kernel
theorem dX8_settle_30 : decode cX8_settle 30 = .ok (.iastore, 1) := by decide +kernel
theorem dX8_settle_31 : decode cX8_settle 31 = .ok (.aload_n 0, 1) := by decide +kernel
theorem dX8_settle_32 : decode cX8_settle 32 = .ok (.getfield 72, 3) := by decide +kernel
theorem dX8_settle_35 : decode cX8_settle 35 = .ok (.aload_n 0, 1) := by decide +kernel
theorem dX8_settle_36 : decode cX8_settle 36 = .ok (.getfield 126, 3) := by decide +kernel
theorem dX8_settle_39 : decode cX8_settle 39 = .ok (.iload_n 1, 1) := by decide +kernel
theorem dX8_settle_40 : decode cX8_settle 40 = .ok (.iastore, 1) := by decide +kernel
theorem dX8_settle_41 : decode cX8_settle 41 = .ok (.aload_n 0, 1) := by decide +kernel
theorem dX8_settle_42 : decode cX8_settle 42 = .ok (.getfield 75, 3) := by decide +kernel
theorem dX8_settle_45 : decode cX8_settle 45 = .ok (.aload_n 0, 1) := by decide +kernel
theorem dX8_settle_46 : decode cX8_settle 46 = .ok (.getfield 126, 3) := by decide +kernel
theorem dX8_settle_49 : decode cX8_settle 49 = .ok (.iload_n 2, 1) := by decide +kernel
theorem dX8_settle_50 : decode cX8_settle 50 = .ok (.iastore, 1) := by decide +kernel
theorem dX8_settle_51 : decode cX8_settle 51 = .ok (.aload_n 0, 1) := by decide +kernel
theorem dX8_settle_52 : decode cX8_settle 52 = .ok (.getfield 78, 3) := by decide +kernel
theorem dX8_settle_55 : decode cX8_settle 55 = .ok (.aload_n 0, 1) := by decide +kernel
theorem dX8_settle_56 : decode cX8_settle 56 = .ok (.getfield 126, 3) := by decide +kernel
theorem dX8_settle_59 : decode cX8_settle 59 = .ok (.iload_n 3, 1) := by decide +kernel
theorem dX8_settle_60 : decode cX8_settle 60 = .ok (.iastore, 1) := by decide +kernel
theorem dX8_settle_61 : decode cX8_settle 61 = .ok (.aload_n 0, 1) := by decide +kernel
theorem dX8_settle_62 : decode cX8_settle 62 = .ok (.getfield 81, 3) := by decide +kernel
theorem dX8_settle_65 : decode cX8_settle 65 = .ok (.aload_n 0, 1) := by decide +kernel
theorem dX8_settle_66 : decode cX8_settle 66 = .ok (.getfield 126, 3) := by decide +kernel
theorem dX8_settle_69 : decode cX8_settle 69 = .ok (.aload_n 0, 1) := by decide +kernel
theorem dX8_settle_70 : decode cX8_settle 70 = .ok (.getfield 129, 3) := by decide +kernel
theorem dX8_settle_73 : decode cX8_settle 73 = .ok (.iastore, 1) := by decide +kernel
theorem dX8_settle_74 : decode cX8_settle 74 = .ok (.aload_n 0, 1) := by decide +kernel
theorem dX8_settle_75 : decode cX8_settle 75 = .ok (.dup, 1) := by decide +kernel
theorem dX8_settle_76 : decode cX8_settle 76 = .ok (.getfield 126, 3) := by decide +kernel
theorem dX8_settle_79 : decode cX8_settle 79 = .ok (.iconst 1, 1) := by decide +kernel
theorem dX8_settle_80 : decode cX8_settle 80 = .ok (.iadd, 1) := by decide +kernel
theorem dX8_settle_81 : decode cX8_settle 81 = .ok (.putfield 126, 3) := by decide +kernel
theorem dX8_settle_84 : decode cX8_settle 84 = .ok (.return_, 1) := by decide +kernel
theorem dX8_sizeOf_0 : decode cX8_sizeOf 0 = .ok (.iconst 0, 1) := by decide +kernel
theorem dX8_sizeOf_1 : decode cX8_sizeOf 1 = .ok (.istore_n 2, 1) := by decide +kernel
theorem dX8_sizeOf_2 : decode cX8_sizeOf 2 = .ok (.iconst 0, 1) := by decide +kernel
theorem dX8_sizeOf_3 : decode cX8_sizeOf 3 = .ok (.istore_n 3, 1) := by decide +kernel
theorem dX8_sizeOf_4 : decode cX8_sizeOf 4 = .ok (.iload_n 3, 1) := by decide +kernel
theorem dX8_sizeOf_5 : decode cX8_sizeOf 5 = .ok (.aload_n 0, 1) := by decide +kernel
theorem dX8_sizeOf_6 : decode cX8_sizeOf 6 = .ok (.getfield 107, 3) := by decide +kernel
theorem dX8_sizeOf_9 : decode cX8_sizeOf 9 = .ok (.if_icmp .ge 31, 3) := by decide +kernel
theorem dX8_sizeOf_12 : decode cX8_sizeOf 12 = .ok (.iload_n 1, 1) := by decide +kernel
theorem dX8_sizeOf_13 : decode cX8_sizeOf 13 = .ok (.ifCond .lt 27, 3) := by decide +kernel
theorem dX8_sizeOf_16 : decode cX8_sizeOf 16 = .ok (.iload_n 2, 1) := by decide +kernel
theorem dX8_sizeOf_17 : decode cX8_sizeOf 17 = .ok (.aload_n 0, 1) := by decide +kernel
theorem dX8_sizeOf_18 : decode cX8_sizeOf 18 = .ok (.getfield 69, 3) := by decide +kernel
theorem dX8_sizeOf_21 : decode cX8_sizeOf 21 = .ok (.iload_n 3, 1) := by decide +kernel
theorem dX8_sizeOf_22 : decode cX8_sizeOf 22 = .ok (.iaload, 1) := by decide +kernel
theorem dX8_sizeOf_23 : decode cX8_sizeOf 23 = .ok (.iload_n 1, 1) := by decide +kernel
theorem dX8_sizeOf_24 : decode cX8_sizeOf 24 = .ok (.if_icmp .ne 7, 3) := by decide +kernel
theorem dX8_sizeOf_27 : decode cX8_sizeOf 27 = .ok (.iconst 1, 1) := by decide +kernel
theorem dX8_sizeOf_28 : decode cX8_sizeOf 28 = .ok (.goto 4, 3) := by decide +kernel
theorem dX8_sizeOf_31 : decode cX8_sizeOf 31 = .ok (.iconst 0, 1) := by decide +kernel
theorem dX8_sizeOf_32 : decode cX8_sizeOf 32 = .ok (.iadd, 1) := by decide +kernel
theorem dX8_sizeOf_33 : decode cX8_sizeOf 33 = .ok (.istore_n 2, 1) := by decide +kernel
theorem dX8_sizeOf_34 : decode cX8_sizeOf 34 = .ok (.iinc 3 1, 3) := by decide +kernel
theorem dX8_sizeOf_37 : decode cX8_sizeOf 37 = .ok (.goto (-33), 3) := by decide +kernel
theorem dX8_sizeOf_40 : decode cX8_sizeOf 40 = .ok (.iload_n 2, 1) := by decide +kernel
theorem dX8_sizeOf_41 : decode cX8_sizeOf 41 = .ok (.ireturn, 1) := by decide +kernel
theorem dX8_isReady_0 : decode cX8_isReady 0 = .ok (.iconst 1, 1) := by decide +kernel
theorem dX8_isReady_1 : decode cX8_isReady 1 = .ok (.istore_n 2, 1) := by decide +kernel
theorem dX8_isReady_2 : decode cX8_isReady 2 = .ok (.iconst 0, 1) := by decide +kernel
theorem dX8_isReady_3 : decode cX8_isReady 3 = .ok (.istore_n 3, 1) := by decide +kernel
theorem dX8_isReady_4 : decode cX8_isReady 4 = .ok (.iload_n 3, 1) := by decide +kernel
theorem dX8_isReady_5 : decode cX8_isReady 5 = .ok (.aload_n 0, 1) := by decide +kernel
theorem dX8_isReady_6 : decode cX8_isReady 6 = .ok (.getfield 107, 3) := by decide +kernel
theorem dX8_isReady_9 : decode cX8_isReady 9 = .ok (.if_icmp .ge 51, 3) := by decide +kernel
theorem dX8_isReady_12 : decode cX8_isReady 12 = .ok (.iload_n 2, 1) := by decide +kernel
theorem dX8_isReady_13 : decode cX8_isReady 13 = .ok (.ifCond .eq 39, 3) := by decide +kernel
theorem dX8_isReady_16 : decode cX8_isReady 16 = .ok (.aload_n 0, 1) := by decide +kernel
theorem dX8_isReady_17 : decode cX8_isReady 17 = .ok (.getfield 69, 3) := by decide +kernel
theorem dX8_isReady_20 : decode cX8_isReady 20 = .ok (.iload_n 3, 1) := by decide +kernel
theorem dX8_isReady_21 : decode cX8_isReady 21 = .ok (.iaload, 1) := by decide +kernel
theorem dX8_isReady_22 : decode cX8_isReady 22 = .ok (.iload_n 1, 1) := by decide +kernel
theorem dX8_isReady_23 : decode cX8_isReady 23 = .ok (.if_icmp .ne 25, 3) := by decide +kernel
theorem dX8_isReady_26 : decode cX8_isReady 26 = .ok (.aload_n 0, 1) := by decide +kernel
theorem dX8_isReady_27 : decode cX8_isReady 27 = .ok (.getfield 51, 3) := by decide +kernel
theorem dX8_isReady_30 : decode cX8_isReady 30 = .ok (.iload_n 3, 1) := by decide +kernel
theorem dX8_isReady_31 : decode cX8_isReady 31 = .ok (.iaload, 1) := by decide +kernel
theorem dX8_isReady_32 : decode cX8_isReady 32 = .ok (.aload_n 0, 1) := by decide +kernel
theorem dX8_isReady_33 : decode cX8_isReady 33 = .ok (.getfield 129, 3) := by decide +kernel
theorem dX8_isReady_36 : decode cX8_isReady 36 = .ok (.if_icmp .gt 16, 3) := by decide +kernel
theorem dX8_isReady_39 : decode cX8_isReady 39 = .ok (.aload_n 0, 1) := by decide +kernel
theorem dX8_isReady_40 : decode cX8_isReady 40 = .ok (.getfield 54, 3) := by decide +kernel
theorem dX8_isReady_43 : decode cX8_isReady 43 = .ok (.iload_n 3, 1) := by decide +kernel
theorem dX8_isReady_44 : decode cX8_isReady 44 = .ok (.iaload, 1) := by decide +kernel
theorem dX8_isReady_45 : decode cX8_isReady 45 = .ok (.ifCond .ne 7, 3) := by decide +kernel
theorem dX8_isReady_48 : decode cX8_isReady 48 = .ok (.iconst 1, 1) := by decide +kernel
theorem dX8_isReady_49 : decode cX8_isReady 49 = .ok (.goto 4, 3) := by decide +kernel
theorem dX8_isReady_52 : decode cX8_isReady 52 = .ok (.iconst 0, 1) := by decide +kernel
theorem dX8_isReady_53 : decode cX8_isReady 53 = .ok (.istore_n 2, 1) := by decide +kernel
theorem dX8_isReady_54 : decode cX8_isReady 54 = .ok (.iinc 3 1, 3) := by decide +kernel
theorem dX8_isReady_57 : decode cX8_isReady 57 = .ok (.goto (-53), 3) := by decide +kernel
theorem dX8_isReady_60 : decode cX8_isReady 60 = .ok (.iload_n 2, 1) := by decide +kernel
theorem dX8_isReady_61 : decode cX8_isReady 61 = .ok (.ireturn, 1) := by decide +kernel
theorem dX8_priorityOf_0 : decode cX8_priorityOf 0 = .ok (.iconst 0, 1) := by decide +kernel
theorem dX8_priorityOf_1 : decode cX8_priorityOf 1 = .ok (.istore_n 2, 1) := by decide +kernel
theorem dX8_priorityOf_2 : decode cX8_priorityOf 2 = .ok (.iconst 0, 1) := by decide +kernel
theorem dX8_priorityOf_3 : decode cX8_priorityOf 3 = .ok (.istore_n 3, 1) := by decide +kernel
theorem dX8_priorityOf_4 : decode cX8_priorityOf 4 = .ok (.iload_n 3, 1) := by decide +kernel
theorem dX8_priorityOf_5 : decode cX8_priorityOf 5 = .ok (.aload_n 0, 1) := by decide +kernel
theorem dX8_priorityOf_6 : decode cX8_priorityOf 6 = .ok (.getfield 107, 3) := by decide +kernel
theorem dX8_priorityOf_9 : decode cX8_priorityOf 9 = .ok (.if_icmp .ge 40, 3) := by decide +kernel
theorem dX8_priorityOf_12 : decode cX8_priorityOf 12 = .ok (.aload_n 0, 1) := by decide +kernel
theorem dX8_priorityOf_13 : decode cX8_priorityOf 13 = .ok (.getfield 69, 3) := by decide +kernel
theorem dX8_priorityOf_16 : decode cX8_priorityOf 16 = .ok (.iload_n 3, 1) := by decide +kernel
theorem dX8_priorityOf_17 : decode cX8_priorityOf 17 = .ok (.iaload, 1) := by decide +kernel
theorem dX8_priorityOf_18 : decode cX8_priorityOf 18 = .ok (.iload_n 1, 1) := by decide +kernel
theorem dX8_priorityOf_19 : decode cX8_priorityOf 19 = .ok (.if_icmp .ne 22, 3) := by decide +kernel
theorem dX8_priorityOf_22 : decode cX8_priorityOf 22 = .ok (.aload_n 0, 1) := by decide +kernel
theorem dX8_priorityOf_23 : decode cX8_priorityOf 23 = .ok (.getfield 60, 3) := by decide +kernel
theorem dX8_priorityOf_26 : decode cX8_priorityOf 26 = .ok (.iload_n 3, 1) := by decide +kernel
theorem dX8_priorityOf_27 : decode cX8_priorityOf 27 = .ok (.iaload, 1) := by decide +kernel
theorem dX8_priorityOf_28 : decode cX8_priorityOf 28 = .ok (.iload_n 2, 1) := by decide +kernel
theorem dX8_priorityOf_29 : decode cX8_priorityOf 29 = .ok (.if_icmp .le 12, 3) := by decide +kernel
theorem dX8_priorityOf_32 : decode cX8_priorityOf 32 = .ok (.aload_n 0, 1) := by decide +kernel
theorem dX8_priorityOf_33 : decode cX8_priorityOf 33 = .ok (.getfield 60, 3) := by decide +kernel
theorem dX8_priorityOf_36 : decode cX8_priorityOf 36 = .ok (.iload_n 3, 1) := by decide +kernel
theorem dX8_priorityOf_37 : decode cX8_priorityOf 37 = .ok (.iaload, 1) := by decide +kernel
theorem dX8_priorityOf_38 : decode cX8_priorityOf 38 = .ok (.goto 4, 3) := by decide +kernel
theorem dX8_priorityOf_41 : decode cX8_priorityOf 41 = .ok (.iload_n 2, 1) := by decide +kernel
theorem dX8_priorityOf_42 : decode cX8_priorityOf 42 = .ok (.istore_n 2, 1) := by decide +kernel
theorem dX8_priorityOf_43 : decode cX8_priorityOf 43 = .ok (.iinc 3 1, 3) := by decide +kernel
theorem dX8_priorityOf_46 : decode cX8_priorityOf 46 = .ok (.goto (-42), 3) := by decide +kernel
theorem dX8_priorityOf_49 : decode cX8_priorityOf 49 = .ok (.iload_n 2, 1) := by decide +kernel
theorem dX8_priorityOf_50 : decode cX8_priorityOf 50 = .ok (.ireturn, 1) := by decide +kernel
theorem dX8_layRow_0 : decode cX8_layRow 0 = .ok (.aload_n 0, 1) := by decide +kernel
theorem dX8_layRow_1 : decode cX8_layRow 1 = .ok (.iconst 0, 1) := by decide +kernel
theorem dX8_layRow_2 : decode cX8_layRow 2 = .ok (.putfield 132, 3) := by decide +kernel
theorem dX8_layRow_5 : decode cX8_layRow 5 = .ok (.iconst 3, 1) := by decide +kernel
theorem dX8_layRow_6 : decode cX8_layRow 6 = .ok (.istore_n 1, 1) := by decide +kernel
theorem dX8_layRow_7 : decode cX8_layRow 7 = .ok (.iload_n 1, 1) := by decide +kernel
theorem dX8_layRow_8 : decode cX8_layRow 8 = .ok (.ifCond .lt 132, 3) := by decide +kernel
theorem dX8_layRow_11 : decode cX8_layRow 11 = .ok (.iconst 0, 1) := by decide +kernel
theorem dX8_layRow_12 : decode cX8_layRow 12 = .ok (.istore_n 2, 1) := by decide +kernel
theorem dX8_layRow_13 : decode cX8_layRow 13 = .ok (.iload_n 2, 1) := by decide +kernel
theorem dX8_layRow_14 : decode cX8_layRow 14 = .ok (.aload_n 0, 1) := by decide +kernel
theorem dX8_layRow_15 : decode cX8_layRow 15 = .ok (.getfield 107, 3) := by decide +kernel
theorem dX8_layRow_18 : decode cX8_layRow 18 = .ok (.if_icmp .ge 116, 3) := by decide +kernel
theorem dX8_layRow_21 : decode cX8_layRow 21 = .ok (.aload_n 0, 1) := by decide +kernel
theorem dX8_layRow_22 : decode cX8_layRow 22 = .ok (.getfield 69, 3) := by decide +kernel
theorem dX8_layRow_25 : decode cX8_layRow 25 = .ok (.iload_n 2, 1) := by decide +kernel
theorem dX8_layRow_26 : decode cX8_layRow 26 = .ok (.iaload, 1) := by decide +kernel
theorem dX8_layRow_27 : decode cX8_layRow 27 = .ok (.ifCond .lt 34, 3) := by decide +kernel
theorem dX8_layRow_30 : decode cX8_layRow 30 = .ok (.aload_n 0, 1) := by decide +kernel
theorem dX8_layRow_31 : decode cX8_layRow 31 = .ok (.aload_n 0, 1) := by decide +kernel
theorem dX8_layRow_32 : decode cX8_layRow 32 = .ok (.getfield 69, 3) := by decide +kernel
theorem dX8_layRow_35 : decode cX8_layRow 35 = .ok (.iload_n 2, 1) := by decide +kernel
theorem dX8_layRow_36 : decode cX8_layRow 36 = .ok (.iaload, 1) := by decide +kernel
theorem dX8_layRow_37 : decode cX8_layRow 37 = .ok (.invokevirtual 135, 3) := by decide +kernel
theorem dX8_layRow_40 : decode cX8_layRow 40 = .ok (.iload_n 1, 1) := by decide +kernel
theorem dX8_layRow_41 : decode cX8_layRow 41 = .ok (.if_icmp .ne 20, 3) := by decide +kernel
theorem dX8_layRow_44 : decode cX8_layRow 44 = .ok (.aload_n 0, 1) := by decide +kernel
theorem dX8_layRow_45 : decode cX8_layRow 45 = .ok (.aload_n 0, 1) := by decide +kernel
theorem dX8_layRow_46 : decode cX8_layRow 46 = .ok (.getfield 69, 3) := by decide +kernel
theorem dX8_layRow_49 : decode cX8_layRow 49 = .ok (.iload_n 2, 1) := by decide +kernel
theorem dX8_layRow_50 : decode cX8_layRow 50 = .ok (.iaload, 1) := by decide +kernel
theorem dX8_layRow_51 : decode cX8_layRow 51 = .ok (.invokevirtual 138, 3) := by decide +kernel
theorem dX8_layRow_54 : decode cX8_layRow 54 = .ok (.ifCond .eq 7, 3) := by decide +kernel
theorem dX8_layRow_57 : decode cX8_layRow 57 = .ok (.iconst 1, 1) := by decide +kernel
theorem dX8_layRow_58 : decode cX8_layRow 58 = .ok (.goto 4, 3) := by decide +kernel
theorem dX8_layRow_61 : decode cX8_layRow 61 = .ok (.iconst 0, 1) := by decide +kernel
theorem dX8_layRow_62 : decode cX8_layRow 62 = .ok (.istore_n 3, 1) := by decide +kernel
theorem dX8_layRow_63 : decode cX8_layRow 63 = .ok (.iconst 0, 1) := by decide +kernel
theorem dX8_layRow_64 : decode cX8_layRow 64 = .ok (.istore 4, 2) := by decide +kernel
theorem dX8_layRow_66 : decode cX8_layRow 66 = .ok (.iload 4, 2) := by decide +kernel
theorem dX8_layRow_68 : decode cX8_layRow 68 = .ok (.iload_n 2, 1) := by decide +kernel
theorem dX8_layRow_69 : decode cX8_layRow 69 = .ok (.if_icmp .ge 35, 3) := by decide +kernel
theorem dX8_layRow_72 : decode cX8_layRow 72 = .ok (.iload_n 3, 1) := by decide +kernel
theorem dX8_layRow_73 : decode cX8_layRow 73 = .ok (.ifCond .eq 31, 3) := by decide +kernel
theorem dX8_layRow_76 : decode cX8_layRow 76 = .ok (.aload_n 0, 1) := by decide +kernel
theorem dX8_layRow_77 : decode cX8_layRow 77 = .ok (.getfield 69, 3) := by decide +kernel
theorem dX8_layRow_80 : decode cX8_layRow 80 = .ok (.iload 4, 2) := by decide +kernel
theorem dX8_layRow_82 : decode cX8_layRow 82 = .ok (.iaload, 1) := by decide +kernel
theorem dX8_layRow_83 : decode cX8_layRow 83 = .ok (.aload_n 0, 1) := by decide +kernel
theorem dX8_layRow_84 : decode cX8_layRow 84 = .ok (.getfield 69, 3) := by decide +kernel
theorem dX8_layRow_87 : decode cX8_layRow 87 = .ok (.iload_n 2, 1) := by decide +kernel
theorem dX8_layRow_88 : decode cX8_layRow 88 = .ok (.iaload, 1) := by decide +kernel
theorem dX8_layRow_89 : decode cX8_layRow 89 = .ok (.if_icmp .eq 7, 3) := by decide +kernel
theorem dX8_layRow_92 : decode cX8_layRow 92 = .ok (.iconst 1, 1) := by decide +kernel
theorem dX8_layRow_93 : decode cX8_layRow 93 = .ok (.goto 4, 3) := by decide +kernel
theorem dX8_layRow_96 : decode cX8_layRow 96 = .ok (.iconst 0, 1) := by decide +kernel
theorem dX8_layRow_97 : decode cX8_layRow 97 = .ok (.istore_n 3, 1) := by decide +kernel
theorem dX8_layRow_98 : decode cX8_layRow 98 = .ok (.iinc 4 1, 3) := by decide +kernel
theorem dX8_layRow_101 : decode cX8_layRow 101 = .ok (.goto (-35), 3) := by decide +kernel
theorem dX8_layRow_104 : decode cX8_layRow 104 = .ok (.iload_n 3, 1) := by decide +kernel
theorem dX8_layRow_105 : decode cX8_layRow 105 = .ok (.ifCond .eq 23, 3) := by decide +kernel
theorem dX8_layRow_108 : decode cX8_layRow 108 = .ok (.aload_n 0, 1) := by decide +kernel
theorem dX8_layRow_109 : decode cX8_layRow 109 = .ok (.getfield 84, 3) := by decide +kernel
theorem dX8_layRow_112 : decode cX8_layRow 112 = .ok (.aload_n 0, 1) := by decide +kernel
theorem dX8_layRow_113 : decode cX8_layRow 113 = .ok (.getfield 132, 3) := by decide +kernel
theorem dX8_layRow_116 : decode cX8_layRow 116 = .ok (.iload_n 2, 1) := by decide +kernel
theorem dX8_layRow_117 : decode cX8_layRow 117 = .ok (.iastore, 1) := by decide +kernel
theorem dX8_layRow_118 : decode cX8_layRow 118 = .ok (.aload_n 0, 1) := by decide +kernel
theorem dX8_layRow_119 : decode cX8_layRow 119 = .ok (.dup, 1) := by decide +kernel
theorem dX8_layRow_120 : decode cX8_layRow 120 = .ok (.getfield 132, 3) := by decide +kernel
theorem dX8_layRow_123 : decode cX8_layRow 123 = .ok (.iconst 1, 1) := by decide +kernel
theorem dX8_layRow_124 : decode cX8_layRow 124 = .ok (.iadd, 1) := by decide +kernel
theorem dX8_layRow_125 : decode cX8_layRow 125 = .ok (.putfield 132, 3) := by decide +kernel
theorem dX8_layRow_128 : decode cX8_layRow 128 = .ok (.iinc 2 1, 3) := by decide +kernel
theorem dX8_layRow_131 : decode cX8_layRow 131 = .ok (.goto (-118), 3) := by decide +kernel
theorem dX8_layRow_134 : decode cX8_layRow 134 = .ok (.iinc 1 (-1), 3) := by decide +kernel
theorem dX8_layRow_137 : decode cX8_layRow 137 = .ok (.goto (-130), 3) := by decide +kernel
theorem dX8_layRow_140 : decode cX8_layRow 140 = .ok (.return_, 1) := by decide +kernel
theorem dX8_settleGroups_0 : decode cX8_settleGroups 0 = .ok (.iconst 0, 1) := by decide +kernel
theorem dX8_settleGroups_1 : decode cX8_settleGroups 1 = .ok (.istore_n 1, 1) := by decide +kernel
theorem dX8_settleGroups_2 : decode cX8_settleGroups 2 = .ok (.iconst 1, 1) := by decide +kernel
theorem dX8_settleGroups_3 : decode cX8_settleGroups 3 = .ok (.istore_n 2, 1) := by decide +kernel
theorem dX8_settleGroups_4 : decode cX8_settleGroups 4 = .ok (.iload_n 2, 1) := by decide +kernel
theorem dX8_settleGroups_5 : decode cX8_settleGroups 5 = .ok (.ifCond .eq 121, 3) := by decide +kernel
theorem dX8_settleGroups_8 : decode cX8_settleGroups 8 = .ok (.iconst 0, 1) := by decide +kernel
theorem dX8_settleGroups_9 : decode cX8_settleGroups 9 = .ok (.istore_n 2, 1) := by decide +kernel
theorem dX8_settleGroups_10 : decode cX8_settleGroups 10 = .ok (.aload_n 0, 1) := by decide +kernel
theorem dX8_settleGroups_11 : decode cX8_settleGroups 11 = .ok (.invokevirtual 141, 3) := by decide +kernel
theorem dX8_settleGroups_14 : decode cX8_settleGroups 14 = .ok (.iconst 0, 1) := by decide +kernel
theorem dX8_settleGroups_15 : decode cX8_settleGroups 15 = .ok (.istore_n 3, 1) := by decide +kernel
theorem dX8_settleGroups_16 : decode cX8_settleGroups 16 = .ok (.iload_n 3, 1) := by decide +kernel
theorem dX8_settleGroups_17 : decode cX8_settleGroups 17 = .ok (.aload_n 0, 1) := by decide +kernel
theorem dX8_settleGroups_18 : decode cX8_settleGroups 18 = .ok (.getfield 132, 3) := by decide +kernel
theorem dX8_settleGroups_21 : decode cX8_settleGroups 21 = .ok (.if_icmp .ge 102, 3) := by decide +kernel
theorem dX8_settleGroups_24 : decode cX8_settleGroups 24 = .ok (.aload_n 0, 1) := by decide +kernel
theorem dX8_settleGroups_25 : decode cX8_settleGroups 25 = .ok (.getfield 69, 3) := by decide +kernel
theorem dX8_settleGroups_28 : decode cX8_settleGroups 28 = .ok (.aload_n 0, 1) := by decide +kernel
theorem dX8_settleGroups_29 : decode cX8_settleGroups 29 = .ok (.getfield 84, 3) := by decide +kernel
theorem dX8_settleGroups_32 : decode cX8_settleGroups 32 = .ok (.iload_n 3, 1) := by decide +kernel
theorem dX8_settleGroups_33 : decode cX8_settleGroups 33 = .ok (.iaload, 1) := by decide +kernel
theorem dX8_settleGroups_34 : decode cX8_settleGroups 34 = .ok (.iaload, 1) := by decide +kernel
theorem dX8_settleGroups_35 : decode cX8_settleGroups 35 = .ok (.istore 4, 2) := by decide +kernel
theorem dX8_settleGroups_37 : decode cX8_settleGroups 37 = .ok (.aload_n 0, 1) := by decide +kernel
theorem dX8_settleGroups_38 : decode cX8_settleGroups 38 = .ok (.iload 4, 2) := by decide +kernel
theorem dX8_settleGroups_40 : decode cX8_settleGroups 40 = .ok (.invokevirtual 144, 3) := by decide +kernel
