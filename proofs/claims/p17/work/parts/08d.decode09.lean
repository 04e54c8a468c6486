theorem dX8_trade_161 : decode cX8_trade 161 = .ok (.iaload, 1) := by decide +kernel
theorem dX8_trade_162 : decode cX8_trade 162 = .ok (.invokevirtual 151, 3) := by decide +kernel
theorem dX8_trade_165 : decode cX8_trade 165 = .ok (.ireturn, 1) := by decide +kernel
theorem dX8_trade_166 : decode cX8_trade 166 = .ok (.aload_n 0, 1) := by decide +kernel
theorem dX8_trade_167 : decode cX8_trade 167 = .ok (.getfield 63, 3) := by decide +kernel
theorem dX8_trade_170 : decode cX8_trade 170 = .ok (.iload_n 1, 1) := by decide +kernel
theorem dX8_trade_171 : decode cX8_trade 171 = .ok (.baload, 1) := by decide +kernel
theorem dX8_trade_172 : decode cX8_trade 172 = .ok (.ifCond .eq 7, 3) := by decide +kernel
theorem dX8_trade_175 : decode cX8_trade 175 = .ok (.iconst 1, 1) := by decide +kernel
theorem dX8_trade_176 : decode cX8_trade 176 = .ok (.goto 4, 3) := by decide +kernel
theorem dX8_trade_179 : decode cX8_trade 179 = .ok (.iconst 0, 1) := by decide +kernel
theorem dX8_trade_180 : decode cX8_trade 180 = .ok (.ireturn, 1) := by decide +kernel
theorem dX8_settled_0 : decode cX8_settled 0 = .ok (.aload_n 0, 1) := by decide +kernel
theorem dX8_settled_1 : decode cX8_settled 1 = .ok (.iconst 0, 1) := by decide +kernel
theorem dX8_settled_2 : decode cX8_settled 2 = .ok (.putfield 93, 3) := by decide +kernel
theorem dX8_settled_5 : decode cX8_settled 5 = .ok (.iload_n 1, 1) := by decide +kernel
theorem dX8_settled_6 : decode cX8_settled 6 = .ok (.i2l, 1) := by decide +kernel
theorem dX8_settled_7 : decode cX8_settled 7 = .ok (.lconst 0, 1) := by decide +kernel
theorem dX8_settled_8 : decode cX8_settled 8 = .ok (.aload_n 0, 1) := by decide +kernel
theorem dX8_settled_9 : decode cX8_settled 9 = .ok (.getfield 126, 3) := by decide +kernel
theorem dX8_settled_12 : decode cX8_settled 12 = .ok (.iconst 1, 1) := by decide +kernel
theorem dX8_settled_13 : decode cX8_settled 13 = .ok (.isub, 1) := by decide +kernel
theorem dX8_settled_14 : decode cX8_settled 14 = .ok (.i2l, 1) := by decide +kernel
theorem dX8_settled_15 : decode cX8_settled 15 = .ok (.invokestatic 99, 3) := by decide +kernel
theorem dX8_settled_18 : decode cX8_settled 18 = .ok (.ifCond .ne 5, 3) := by decide +kernel
theorem dX8_settled_21 : decode cX8_settled 21 = .ok (.iconst (-1), 1) := by decide +kernel
theorem dX8_settled_22 : decode cX8_settled 22 = .ok (.ireturn, 1) := by decide +kernel
theorem dX8_settled_23 : decode cX8_settled 23 = .ok (.iload_n 2, 1) := by decide +kernel
theorem dX8_settled_24 : decode cX8_settled 24 = .ok (.tableswitch 60 0 3 #[32, 39, 46, 53], 32) := by decide +kernel
theorem dX8_settled_56 : decode cX8_settled 56 = .ok (.aload_n 0, 1) := by decide +kernel
theorem dX8_settled_57 : decode cX8_settled 57 = .ok (.getfield 72, 3) := by decide +kernel
theorem dX8_settled_60 : decode cX8_settled 60 = .ok (.iload_n 1, 1) := by decide +kernel
theorem dX8_settled_61 : decode cX8_settled 61 = .ok (.iaload, 1) := by decide +kernel
theorem dX8_settled_62 : decode cX8_settled 62 = .ok (.ireturn, 1) := by decide +kernel
theorem dX8_settled_63 : decode cX8_settled 63 = .ok (.aload_n 0, 1) := by decide +kernel
theorem dX8_settled_64 : decode cX8_settled 64 = .ok (.getfield 75, 3) := by decide +kernel
theorem dX8_settled_67 : decode cX8_settled 67 = .ok (.iload_n 1, 1) := by decide +kernel
theorem dX8_settled_68 : decode cX8_settled 68 = .ok (.iaload, 1) := by decide +kernel
theorem dX8_settled_69 : decode cX8_settled 69 = .ok (.ireturn, 1) := by decide +kernel
theorem dX8_settled_70 : decode cX8_settled 70 = .ok (.aload_n 0, 1) := by decide +kernel
theorem dX8_settled_71 : decode cX8_settled 71 = .ok (.getfield 78, 3) := by decide +kernel
theorem dX8_settled_74 : decode cX8_settled 74 = .ok (.iload_n 1, 1) := by decide +kernel
theorem dX8_settled_75 : decode cX8_settled 75 = .ok (.iaload, 1) := by decide +kernel
theorem dX8_settled_76 : decode cX8_settled 76 = .ok (.ireturn, 1) := by decide +kernel
theorem dX8_settled_77 : decode cX8_settled 77 = .ok (.aload_n 0, 1) := by decide +kernel
theorem dX8_settled_78 : decode cX8_settled 78 = .ok (.getfield 81, 3) := by decide +kernel
theorem dX8_settled_81 : decode cX8_settled 81 = .ok (.iload_n 1, 1) := by decide +kernel
theorem dX8_settled_82 : decode cX8_settled 82 = .ok (.iaload, 1) := by decide +kernel
theorem dX8_settled_83 : decode cX8_settled 83 = .ok (.ireturn, 1) := by decide +kernel
theorem dX8_settled_84 : decode cX8_settled 84 = .ok (.iconst (-1), 1) := by decide +kernel
theorem dX8_settled_85 : decode cX8_settled 85 = .ok (.ireturn, 1) := by decide +kernel
theorem dX8_business_0 : decode cX8_business 0 = .ok (.aload_n 0, 1) := by decide +kernel
theorem dX8_business_1 : decode cX8_business 1 = .ok (.iload_n 1, 1) := by decide +kernel
theorem dX8_business_2 : decode cX8_business 2 = .ok (.i2l, 1) := by decide +kernel
theorem dX8_business_3 : decode cX8_business 3 = .ok (.lconst 0, 1) := by decide +kernel
theorem dX8_business_4 : decode cX8_business 4 = .ok (.ldc2_w 174, 3) := by decide +kernel
theorem dX8_business_7 : decode cX8_business 7 = .ok (.invokestatic 99, 3) := by decide +kernel
theorem dX8_business_10 : decode cX8_business 10 = .ok (.ifCond .eq 19, 3) := by decide +kernel
theorem dX8_business_13 : decode cX8_business 13 = .ok (.iload_n 2, 1) := by decide +kernel
theorem dX8_business_14 : decode cX8_business 14 = .ok (.i2l, 1) := by decide +kernel
theorem dX8_business_15 : decode cX8_business 15 = .ok (.lconst 0, 1) := by decide +kernel
theorem dX8_business_16 : decode cX8_business 16 = .ok (.ldc2_w 204, 3) := by decide +kernel
theorem dX8_business_19 : decode cX8_business 19 = .ok (.invokestatic 99, 3) := by decide +kernel
theorem dX8_business_22 : decode cX8_business 22 = .ok (.ifCond .eq 7, 3) := by decide +kernel
theorem dX8_business_25 : decode cX8_business 25 = .ok (.iconst 0, 1) := by decide +kernel
theorem dX8_business_26 : decode cX8_business 26 = .ok (.goto 4, 3) := by decide +kernel
theorem dX8_business_29 : decode cX8_business 29 = .ok (.iconst 1, 1) := by decide +kernel
theorem dX8_business_30 : decode cX8_business 30 = .ok (.putfield 93, 3) := by decide +kernel
theorem dX8_business_33 : decode cX8_business 33 = .ok (.aload_n 0, 1) := by decide +kernel
theorem dX8_business_34 : decode cX8_business 34 = .ok (.getfield 93, 3) := by decide +kernel
theorem dX8_business_37 : decode cX8_business 37 = .ok (.ifCond .le 7, 3) := by decide +kernel
theorem dX8_business_40 : decode cX8_business 40 = .ok (.iconst 0, 1) := by decide +kernel
theorem dX8_business_41 : decode cX8_business 41 = .ok (.goto 9, 3) := by decide +kernel
theorem dX8_business_44 : decode cX8_business 44 = .ok (.aload_n 0, 1) := by decide +kernel
theorem dX8_business_45 : decode cX8_business 45 = .ok (.iload_n 1, 1) := by decide +kernel
theorem dX8_business_46 : decode cX8_business 46 = .ok (.iload_n 2, 1) := by decide +kernel
theorem dX8_business_47 : decode cX8_business 47 = .ok (.invokevirtual 183, 3) := by decide +kernel
theorem dX8_business_50 : decode cX8_business 50 = .ok (.ireturn, 1) := by decide +kernel
theorem dX8_date_0 : decode cX8_date 0 = .ok (.aload_n 0, 1) := by decide +kernel
theorem dX8_date_1 : decode cX8_date 1 = .ok (.iload_n 1, 1) := by decide +kernel
theorem dX8_date_2 : decode cX8_date 2 = .ok (.i2l, 1) := by decide +kernel
theorem dX8_date_3 : decode cX8_date 3 = .ok (.lconst 0, 1) := by decide +kernel
theorem dX8_date_4 : decode cX8_date 4 = .ok (.ldc2_w 206, 3) := by decide +kernel
theorem dX8_date_7 : decode cX8_date 7 = .ok (.invokestatic 99, 3) := by decide +kernel
theorem dX8_date_10 : decode cX8_date 10 = .ok (.ifCond .eq 7, 3) := by decide +kernel
theorem dX8_date_13 : decode cX8_date 13 = .ok (.iconst 0, 1) := by decide +kernel
theorem dX8_date_14 : decode cX8_date 14 = .ok (.goto 4, 3) := by decide +kernel
theorem dX8_date_17 : decode cX8_date 17 = .ok (.iconst 1, 1) := by decide +kernel
theorem dX8_date_18 : decode cX8_date 18 = .ok (.putfield 93, 3) := by decide +kernel
theorem dX8_date_21 : decode cX8_date 21 = .ok (.aload_n 0, 1) := by decide +kernel
theorem dX8_date_22 : decode cX8_date 22 = .ok (.getfield 93, 3) := by decide +kernel
theorem dX8_date_25 : decode cX8_date 25 = .ok (.ifCond .gt 8, 3) := by decide +kernel
theorem dX8_date_28 : decode cX8_date 28 = .ok (.iload_n 1, 1) := by decide +kernel
theorem dX8_date_29 : decode cX8_date 29 = .ok (.iconst 2, 1) := by decide +kernel
theorem dX8_date_30 : decode cX8_date 30 = .ok (.if_icmp .le 34, 3) := by decide +kernel
theorem dX8_date_33 : decode cX8_date 33 = .ok (.aload_n 0, 1) := by decide +kernel
theorem dX8_date_34 : decode cX8_date 34 = .ok (.getfield 93, 3) := by decide +kernel
theorem dX8_date_37 : decode cX8_date 37 = .ok (.ifCond .le 7, 3) := by decide +kernel
theorem dX8_date_40 : decode cX8_date 40 = .ok (.iconst 0, 1) := by decide +kernel
theorem dX8_date_41 : decode cX8_date 41 = .ok (.goto 22, 3) := by decide +kernel
theorem dX8_date_44 : decode cX8_date 44 = .ok (.iload_n 1, 1) := by decide +kernel
theorem dX8_date_45 : decode cX8_date 45 = .ok (.iconst 3, 1) := by decide +kernel
theorem dX8_date_46 : decode cX8_date 46 = .ok (.if_icmp .ne 13, 3) := by decide +kernel
theorem dX8_date_49 : decode cX8_date 49 = .ok (.aload_n 0, 1) := by decide +kernel
theorem dX8_date_50 : decode cX8_date 50 = .ok (.getfield 129, 3) := by decide +kernel
theorem dX8_date_53 : decode cX8_date 53 = .ok (.invokestatic 110, 3) := by decide +kernel
theorem dX8_date_56 : decode cX8_date 56 = .ok (.goto 7, 3) := by decide +kernel
theorem dX8_date_59 : decode cX8_date 59 = .ok (.aload_n 0, 1) := by decide +kernel
theorem dX8_date_60 : decode cX8_date 60 = .ok (.getfield 129, 3) := by decide +kernel
theorem dX8_date_63 : decode cX8_date 63 = .ok (.ireturn, 1) := by decide +kernel
theorem dX8_date_64 : decode cX8_date 64 = .ok (.aload_n 0, 1) := by decide +kernel
theorem dX8_date_65 : decode cX8_date 65 = .ok (.getfield 129, 3) := by decide +kernel
theorem dX8_date_68 : decode cX8_date 68 = .ok (.istore_n 2, 1) := by decide +kernel
theorem dX8_date_69 : decode cX8_date 69 = .ok (.sipush 1970, 3) := by decide +kernel
theorem dX8_date_72 : decode cX8_date 72 = .ok (.istore_n 3, 1) := by decide +kernel
theorem dX8_date_73 : decode cX8_date 73 = .ok (.iload_n 2, 1) := by decide +kernel
theorem dX8_date_74 : decode cX8_date 74 = .ok (.iload_n 3, 1) := by decide +kernel
theorem dX8_date_75 : decode cX8_date 75 = .ok (.invokestatic 114, 3) := by decide +kernel
theorem dX8_date_78 : decode cX8_date 78 = .ok (.ifCond .eq 9, 3) := by decide +kernel
theorem dX8_date_81 : decode cX8_date 81 = .ok (.sipush 366, 3) := by decide +kernel
theorem dX8_date_84 : decode cX8_date 84 = .ok (.goto 6, 3) := by decide +kernel
theorem dX8_date_87 : decode cX8_date 87 = .ok (.sipush 365, 3) := by decide +kernel
theorem dX8_date_90 : decode cX8_date 90 = .ok (.if_icmp .lt 28, 3) := by decide +kernel
theorem dX8_date_93 : decode cX8_date 93 = .ok (.iload_n 2, 1) := by decide +kernel
theorem dX8_date_94 : decode cX8_date 94 = .ok (.iload_n 3, 1) := by decide +kernel
theorem dX8_date_95 : decode cX8_date 95 = .ok (.invokestatic 114, 3) := by decide +kernel
theorem dX8_date_98 : decode cX8_date 98 = .ok (.ifCond .eq 9, 3) := by decide +kernel
theorem dX8_date_101 : decode cX8_date 101 = .ok (.sipush 366, 3) := by decide +kernel
theorem dX8_date_104 : decode cX8_date 104 = .ok (.goto 6, 3) := by decide +kernel
theorem dX8_date_107 : decode cX8_date 107 = .ok (.sipush 365, 3) := by decide +kernel
theorem dX8_date_110 : decode cX8_date 110 = .ok (.isub, 1) := by decide +kernel
theorem dX8_date_111 : decode cX8_date 111 = .ok (.istore_n 2, 1) := by decide +kernel
theorem dX8_date_112 : decode cX8_date 112 = .ok (.iinc 3 1, 3) := by decide +kernel
theorem dX8_date_115 : decode cX8_date 115 = .ok (.goto (-42), 3) := by decide +kernel
theorem dX8_date_118 : decode cX8_date 118 = .ok (.iconst 1, 1) := by decide +kernel
theorem dX8_date_119 : decode cX8_date 119 = .ok (.istore 4, 2) := by decide +kernel
theorem dX8_date_121 : decode cX8_date 121 = .ok (.iload_n 2, 1) := by decide +kernel
theorem dX8_date_122 : decode cX8_date 122 = .ok (.iload_n 3, 1) := by decide +kernel
theorem dX8_date_123 : decode cX8_date 123 = .ok (.iload 4, 2) := by decide +kernel
theorem dX8_date_125 : decode cX8_date 125 = .ok (.invokestatic 208, 3) := by decide +kernel
theorem dX8_date_128 : decode cX8_date 128 = .ok (.if_icmp .lt 18, 3) := by decide +kernel
theorem dX8_date_131 : decode cX8_date 131 = .ok (.iload_n 2, 1) := by decide +kernel
theorem dX8_date_132 : decode cX8_date 132 = .ok (.iload_n 3, 1) := by decide +kernel
theorem dX8_date_133 : decode cX8_date 133 = .ok (.iload 4, 2) := by decide +kernel
theorem dX8_date_135 : decode cX8_date 135 = .ok (.invokestatic 208, 3) := by decide +kernel
theorem dX8_date_138 : decode cX8_date 138 = .ok (.isub, 1) := by decide +kernel
theorem dX8_date_139 : decode cX8_date 139 = .ok (.istore_n 2, 1) := by decide +kernel
theorem dX8_date_140 : decode cX8_date 140 = .ok (.iinc 4 1, 3) := by decide +kernel
theorem dX8_date_143 : decode cX8_date 143 = .ok (.goto (-22), 3) := by decide +kernel
theorem dX8_date_146 : decode cX8_date 146 = .ok (.iload_n 1, 1) := by decide +kernel
theorem dX8_date_147 : decode cX8_date 147 = .ok (.ifCond .ne 7, 3) := by decide +kernel
theorem dX8_date_150 : decode cX8_date 150 = .ok (.iload_n 3, 1) := by decide +kernel
theorem dX8_date_151 : decode cX8_date 151 = .ok (.goto 16, 3) := by decide +kernel
theorem dX8_date_154 : decode cX8_date 154 = .ok (.iload_n 1, 1) := by decide +kernel
theorem dX8_date_155 : decode cX8_date 155 = .ok (.iconst 1, 1) := by decide +kernel
theorem dX8_date_156 : decode cX8_date 156 = .ok (.if_icmp .ne 8, 3) := by decide +kernel
theorem dX8_date_159 : decode cX8_date 159 = .ok (.iload 4, 2) := by decide +kernel
theorem dX8_date_161 : decode cX8_date 161 = .ok (.goto 6, 3) := by decide +kernel
theorem dX8_date_164 : decode cX8_date 164 = .ok (.iload_n 2, 1) := by decide +kernel
theorem dX8_date_165 : decode cX8_date 165 = .ok (.iconst 1, 1) := by decide +kernel
theorem dX8_date_166 : decode cX8_date 166 = .ok (.iadd, 1) := by decide +kernel
theorem dX8_date_167 : decode cX8_date 167 = .ok (.ireturn, 1) := by decide +kernel
theorem dX8_count_0 : decode cX8_count 0 = .ok (.aload_n 0, 1) := by decide +kernel
theorem dX8_count_1 : decode cX8_count 1 = .ok (.iload_n 1, 1) := by decide +kernel
theorem dX8_count_2 : decode cX8_count 2 = .ok (.i2l, 1) := by decide +kernel
theorem dX8_count_3 : decode cX8_count 3 = .ok (.lconst 0, 1) := by decide +kernel
theorem dX8_count_4 : decode cX8_count 4 = .ok (.ldc2_w 206, 3) := by decide +kernel
theorem dX8_count_7 : decode cX8_count 7 = .ok (.invokestatic 99, 3) := by decide +kernel
theorem dX8_count_10 : decode cX8_count 10 = .ok (.ifCond .eq 7, 3) := by decide +kernel
theorem dX8_count_13 : decode cX8_count 13 = .ok (.iconst 0, 1) := by decide +kernel
theorem dX8_count_14 : decode cX8_count 14 = .ok (.goto 4, 3) := by decide +kernel
theorem dX8_count_17 : decode cX8_count 17 = .ok (.iconst 1, 1) := by decide +kernel
theorem dX8_count_18 : decode cX8_count 18 = .ok (.putfield 93, 3) := by decide +kernel
theorem dX8_count_21 : decode cX8_count 21 = .ok (.iconst 0, 1) := by decide +kernel
theorem dX8_count_22 : decode cX8_count 22 = .ok (.istore_n 2, 1) := by decide +kernel
theorem dX8_count_23 : decode cX8_count 23 = .ok (.iconst 0, 1) := by decide +kernel
theorem dX8_count_24 : decode cX8_count 24 = .ok (.istore_n 3, 1) := by decide +kernel
theorem dX8_count_25 : decode cX8_count 25 = .ok (.iload_n 3, 1) := by decide +kernel
theorem dX8_count_26 : decode cX8_count 26 = .ok (.aload_n 0, 1) := by decide +kernel
theorem dX8_count_27 : decode cX8_count 27 = .ok (.getfield 107, 3) := by decide +kernel
theorem dX8_count_30 : decode cX8_count 30 = .ok (.if_icmp .ge 34, 3) := by decide +kernel
theorem dX8_count_33 : decode cX8_count 33 = .ok (.aload_n 0, 1) := by decide +kernel
theorem dX8_count_34 : decode cX8_count 34 = .ok (.getfield 93, 3) := by decide +kernel
theorem dX8_count_37 : decode cX8_count 37 = .ok (.ifCond .ne 27, 3) := by decide +kernel
theorem dX8_count_40 : decode cX8_count 40 = .ok (.iload_n 2, 1) := by decide +kernel
theorem dX8_count_41 : decode cX8_count 41 = .ok (.aload_n 0, 1) := by decide +kernel
theorem dX8_count_42 : decode cX8_count 42 = .ok (.getfield 48, 3) := by decide +kernel
theorem dX8_count_45 : decode cX8_count 45 = .ok (.iload_n 3, 1) := by decide +kernel
theorem dX8_count_46 : decode cX8_count 46 = .ok (.iaload, 1) := by decide +kernel
theorem dX8_count_47 : decode cX8_count 47 = .ok (.iload_n 1, 1) := by decide +kernel
theorem dX8_count_48 : decode cX8_count 48 = .ok (.if_icmp .ne 7, 3) := by decide +kernel
theorem dX8_count_51 : decode cX8_count 51 = .ok (.iconst 1, 1) := by decide +kernel
theorem dX8_count_52 : decode cX8_count 52 = .ok (.goto 4, 3) := by decide +kernel
theorem dX8_count_55 : decode cX8_count 55 = .ok (.iconst 0, 1) := by decide +kernel
theorem dX8_count_56 : decode cX8_count 56 = .ok (.iadd, 1) := by decide +kernel
theorem dX8_count_57 : decode cX8_count 57 = .ok (.istore_n 2, 1) := by decide +kernel
theorem dX8_count_58 : decode cX8_count 58 = .ok (.iinc 3 1, 3) := by decide +kernel
theorem dX8_count_61 : decode cX8_count 61 = .ok (.goto (-36), 3) := by decide +kernel
theorem dX8_count_64 : decode cX8_count 64 = .ok (.iload_n 2, 1) := by decide +kernel
theorem dX8_count_65 : decode cX8_count 65 = .ok (.ireturn, 1) := by decide +kernel
theorem dX8_astray_0 : decode cX8_astray 0 = .ok (.aload_n 0, 1) := by decide +kernel
theorem dX8_astray_1 : decode cX8_astray 1 = .ok (.iconst 0, 1) := by decide +kernel
theorem dX8_astray_2 : decode cX8_astray 2 = .ok (.putfield 93, 3) := by decide +kernel
theorem dX8_astray_5 : decode cX8_astray 5 = .ok (.iconst 0, 1) := by decide +kernel
theorem dX8_astray_6 : decode cX8_astray 6 = .ok (.ireturn, 1) := by decide +kernel
