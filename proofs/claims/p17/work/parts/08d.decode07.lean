theorem dX8_settleGroups_43 : decode cX8_settleGroups 43 = .ok (.ifCond .eq 74, 3) := by decide +kernel
theorem dX8_settleGroups_46 : decode cX8_settleGroups 46 = .ok (.iconst 1, 1) := by decide +kernel
theorem dX8_settleGroups_47 : decode cX8_settleGroups 47 = .ok (.istore_n 2, 1) := by decide +kernel
theorem dX8_settleGroups_48 : decode cX8_settleGroups 48 = .ok (.iconst 0, 1) := by decide +kernel
theorem dX8_settleGroups_49 : decode cX8_settleGroups 49 = .ok (.istore 5, 2) := by decide +kernel
theorem dX8_settleGroups_51 : decode cX8_settleGroups 51 = .ok (.iload 5, 2) := by decide +kernel
theorem dX8_settleGroups_53 : decode cX8_settleGroups 53 = .ok (.aload_n 0, 1) := by decide +kernel
theorem dX8_settleGroups_54 : decode cX8_settleGroups 54 = .ok (.getfield 107, 3) := by decide +kernel
theorem dX8_settleGroups_57 : decode cX8_settleGroups 57 = .ok (.if_icmp .ge 60, 3) := by decide +kernel
theorem dX8_settleGroups_60 : decode cX8_settleGroups 60 = .ok (.aload_n 0, 1) := by decide +kernel
theorem dX8_settleGroups_61 : decode cX8_settleGroups 61 = .ok (.getfield 69, 3) := by decide +kernel
theorem dX8_settleGroups_64 : decode cX8_settleGroups 64 = .ok (.iload 5, 2) := by decide +kernel
theorem dX8_settleGroups_66 : decode cX8_settleGroups 66 = .ok (.iaload, 1) := by decide +kernel
theorem dX8_settleGroups_67 : decode cX8_settleGroups 67 = .ok (.iload 4, 2) := by decide +kernel
theorem dX8_settleGroups_69 : decode cX8_settleGroups 69 = .ok (.if_icmp .ne 42, 3) := by decide +kernel
theorem dX8_settleGroups_72 : decode cX8_settleGroups 72 = .ok (.aload_n 0, 1) := by decide +kernel
theorem dX8_settleGroups_73 : decode cX8_settleGroups 73 = .ok (.iload 5, 2) := by decide +kernel
theorem dX8_settleGroups_75 : decode cX8_settleGroups 75 = .ok (.aload_n 0, 1) := by decide +kernel
theorem dX8_settleGroups_76 : decode cX8_settleGroups 76 = .ok (.getfield 27, 3) := by decide +kernel
theorem dX8_settleGroups_79 : decode cX8_settleGroups 79 = .ok (.iload 5, 2) := by decide +kernel
theorem dX8_settleGroups_81 : decode cX8_settleGroups 81 = .ok (.iaload, 1) := by decide +kernel
theorem dX8_settleGroups_82 : decode cX8_settleGroups 82 = .ok (.aload_n 0, 1) := by decide +kernel
theorem dX8_settleGroups_83 : decode cX8_settleGroups 83 = .ok (.getfield 30, 3) := by decide +kernel
theorem dX8_settleGroups_86 : decode cX8_settleGroups 86 = .ok (.iload 5, 2) := by decide +kernel
theorem dX8_settleGroups_88 : decode cX8_settleGroups 88 = .ok (.iaload, 1) := by decide +kernel
theorem dX8_settleGroups_89 : decode cX8_settleGroups 89 = .ok (.invokevirtual 147, 3) := by decide +kernel
theorem dX8_settleGroups_92 : decode cX8_settleGroups 92 = .ok (.aload_n 0, 1) := by decide +kernel
theorem dX8_settleGroups_93 : decode cX8_settleGroups 93 = .ok (.getfield 48, 3) := by decide +kernel
theorem dX8_settleGroups_96 : decode cX8_settleGroups 96 = .ok (.iload 5, 2) := by decide +kernel
theorem dX8_settleGroups_98 : decode cX8_settleGroups 98 = .ok (.iconst 2, 1) := by decide +kernel
theorem dX8_settleGroups_99 : decode cX8_settleGroups 99 = .ok (.iastore, 1) := by decide +kernel
theorem dX8_settleGroups_100 : decode cX8_settleGroups 100 = .ok (.aload_n 0, 1) := by decide +kernel
theorem dX8_settleGroups_101 : decode cX8_settleGroups 101 = .ok (.getfield 69, 3) := by decide +kernel
theorem dX8_settleGroups_104 : decode cX8_settleGroups 104 = .ok (.iload 5, 2) := by decide +kernel
theorem dX8_settleGroups_106 : decode cX8_settleGroups 106 = .ok (.iconst (-1), 1) := by decide +kernel
theorem dX8_settleGroups_107 : decode cX8_settleGroups 107 = .ok (.iastore, 1) := by decide +kernel
theorem dX8_settleGroups_108 : decode cX8_settleGroups 108 = .ok (.iinc 1 1, 3) := by decide +kernel
theorem dX8_settleGroups_111 : decode cX8_settleGroups 111 = .ok (.iinc 5 1, 3) := by decide +kernel
theorem dX8_settleGroups_114 : decode cX8_settleGroups 114 = .ok (.goto (-63), 3) := by decide +kernel
theorem dX8_settleGroups_117 : decode cX8_settleGroups 117 = .ok (.iinc 3 1, 3) := by decide +kernel
theorem dX8_settleGroups_120 : decode cX8_settleGroups 120 = .ok (.goto (-104), 3) := by decide +kernel
theorem dX8_settleGroups_123 : decode cX8_settleGroups 123 = .ok (.goto (-119), 3) := by decide +kernel
theorem dX8_settleGroups_126 : decode cX8_settleGroups 126 = .ok (.iload_n 1, 1) := by decide +kernel
theorem dX8_settleGroups_127 : decode cX8_settleGroups 127 = .ok (.ireturn, 1) := by decide +kernel
theorem dX8_partOf_0 : decode cX8_partOf 0 = .ok (.aload_n 0, 1) := by decide +kernel
theorem dX8_partOf_1 : decode cX8_partOf 1 = .ok (.getfield 13, 3) := by decide +kernel
theorem dX8_partOf_4 : decode cX8_partOf 4 = .ok (.aload_n 0, 1) := by decide +kernel
theorem dX8_partOf_5 : decode cX8_partOf 5 = .ok (.getfield 17, 3) := by decide +kernel
theorem dX8_partOf_8 : decode cX8_partOf 8 = .ok (.iload_n 1, 1) := by decide +kernel
theorem dX8_partOf_9 : decode cX8_partOf 9 = .ok (.iaload, 1) := by decide +kernel
theorem dX8_partOf_10 : decode cX8_partOf 10 = .ok (.aload_n 0, 1) := by decide +kernel
theorem dX8_partOf_11 : decode cX8_partOf 11 = .ok (.getfield 24, 3) := by decide +kernel
theorem dX8_partOf_14 : decode cX8_partOf 14 = .ok (.iload_n 1, 1) := by decide +kernel
theorem dX8_partOf_15 : decode cX8_partOf 15 = .ok (.iaload, 1) := by decide +kernel
theorem dX8_partOf_16 : decode cX8_partOf 16 = .ok (.invokestatic 118, 3) := by decide +kernel
theorem dX8_partOf_19 : decode cX8_partOf 19 = .ok (.laload, 1) := by decide +kernel
theorem dX8_partOf_20 : decode cX8_partOf 20 = .ok (.lstore_n 2, 1) := by decide +kernel
theorem dX8_partOf_21 : decode cX8_partOf 21 = .ok (.lload_n 2, 1) := by decide +kernel
theorem dX8_partOf_22 : decode cX8_partOf 22 = .ok (.aload_n 0, 1) := by decide +kernel
theorem dX8_partOf_23 : decode cX8_partOf 23 = .ok (.getfield 27, 3) := by decide +kernel
theorem dX8_partOf_26 : decode cX8_partOf 26 = .ok (.iload_n 1, 1) := by decide +kernel
theorem dX8_partOf_27 : decode cX8_partOf 27 = .ok (.iaload, 1) := by decide +kernel
theorem dX8_partOf_28 : decode cX8_partOf 28 = .ok (.iconst 1, 1) := by decide +kernel
theorem dX8_partOf_29 : decode cX8_partOf 29 = .ok (.isub, 1) := by decide +kernel
theorem dX8_partOf_30 : decode cX8_partOf 30 = .ok (.i2l, 1) := by decide +kernel
theorem dX8_partOf_31 : decode cX8_partOf 31 = .ok (.lcmp, 1) := by decide +kernel
theorem dX8_partOf_32 : decode cX8_partOf 32 = .ok (.ifCond .ge 7, 3) := by decide +kernel
theorem dX8_partOf_35 : decode cX8_partOf 35 = .ok (.lload_n 2, 1) := by decide +kernel
theorem dX8_partOf_36 : decode cX8_partOf 36 = .ok (.goto 12, 3) := by decide +kernel
theorem dX8_partOf_39 : decode cX8_partOf 39 = .ok (.aload_n 0, 1) := by decide +kernel
theorem dX8_partOf_40 : decode cX8_partOf 40 = .ok (.getfield 27, 3) := by decide +kernel
theorem dX8_partOf_43 : decode cX8_partOf 43 = .ok (.iload_n 1, 1) := by decide +kernel
theorem dX8_partOf_44 : decode cX8_partOf 44 = .ok (.iaload, 1) := by decide +kernel
theorem dX8_partOf_45 : decode cX8_partOf 45 = .ok (.iconst 1, 1) := by decide +kernel
theorem dX8_partOf_46 : decode cX8_partOf 46 = .ok (.isub, 1) := by decide +kernel
theorem dX8_partOf_47 : decode cX8_partOf 47 = .ok (.i2l, 1) := by decide +kernel
theorem dX8_partOf_48 : decode cX8_partOf 48 = .ok (.lstore_n 2, 1) := by decide +kernel
theorem dX8_partOf_49 : decode cX8_partOf 49 = .ok (.aload_n 0, 1) := by decide +kernel
theorem dX8_partOf_50 : decode cX8_partOf 50 = .ok (.getfield 13, 3) := by decide +kernel
theorem dX8_partOf_53 : decode cX8_partOf 53 = .ok (.aload_n 0, 1) := by decide +kernel
theorem dX8_partOf_54 : decode cX8_partOf 54 = .ok (.getfield 21, 3) := by decide +kernel
theorem dX8_partOf_57 : decode cX8_partOf 57 = .ok (.iload_n 1, 1) := by decide +kernel
theorem dX8_partOf_58 : decode cX8_partOf 58 = .ok (.iaload, 1) := by decide +kernel
theorem dX8_partOf_59 : decode cX8_partOf 59 = .ok (.iconst (-1), 1) := by decide +kernel
theorem dX8_partOf_60 : decode cX8_partOf 60 = .ok (.invokestatic 118, 3) := by decide +kernel
theorem dX8_partOf_63 : decode cX8_partOf 63 = .ok (.laload, 1) := by decide +kernel
theorem dX8_partOf_64 : decode cX8_partOf 64 = .ok (.lstore 4, 2) := by decide +kernel
theorem dX8_partOf_66 : decode cX8_partOf 66 = .ok (.lload_n 2, 1) := by decide +kernel
theorem dX8_partOf_67 : decode cX8_partOf 67 = .ok (.lconst 0, 1) := by decide +kernel
theorem dX8_partOf_68 : decode cX8_partOf 68 = .ok (.lcmp, 1) := by decide +kernel
theorem dX8_partOf_69 : decode cX8_partOf 69 = .ok (.ifCond .gt 5, 3) := by decide +kernel
theorem dX8_partOf_72 : decode cX8_partOf 72 = .ok (.iconst 0, 1) := by decide +kernel
theorem dX8_partOf_73 : decode cX8_partOf 73 = .ok (.ireturn, 1) := by decide +kernel
theorem dX8_partOf_74 : decode cX8_partOf 74 = .ok (.aload_n 0, 1) := by decide +kernel
theorem dX8_partOf_75 : decode cX8_partOf 75 = .ok (.getfield 30, 3) := by decide +kernel
theorem dX8_partOf_78 : decode cX8_partOf 78 = .ok (.iload_n 1, 1) := by decide +kernel
theorem dX8_partOf_79 : decode cX8_partOf 79 = .ok (.iaload, 1) := by decide +kernel
theorem dX8_partOf_80 : decode cX8_partOf 80 = .ok (.ifCond .le 62, 3) := by decide +kernel
theorem dX8_partOf_83 : decode cX8_partOf 83 = .ok (.lload 4, 2) := by decide +kernel
theorem dX8_partOf_85 : decode cX8_partOf 85 = .ok (.aload_n 0, 1) := by decide +kernel
theorem dX8_partOf_86 : decode cX8_partOf 86 = .ok (.getfield 30, 3) := by decide +kernel
theorem dX8_partOf_89 : decode cX8_partOf 89 = .ok (.iload_n 1, 1) := by decide +kernel
theorem dX8_partOf_90 : decode cX8_partOf 90 = .ok (.iaload, 1) := by decide +kernel
theorem dX8_partOf_91 : decode cX8_partOf 91 = .ok (.i2l, 1) := by decide +kernel
theorem dX8_partOf_92 : decode cX8_partOf 92 = .ok (.lcmp, 1) := by decide +kernel
theorem dX8_partOf_93 : decode cX8_partOf 93 = .ok (.ifCond .ge 49, 3) := by decide +kernel
theorem dX8_partOf_96 : decode cX8_partOf 96 = .ok (.lload 4, 2) := by decide +kernel
theorem dX8_partOf_98 : decode cX8_partOf 98 = .ok (.lconst 1, 1) := by decide +kernel
theorem dX8_partOf_99 : decode cX8_partOf 99 = .ok (.ladd, 1) := by decide +kernel
theorem dX8_partOf_100 : decode cX8_partOf 100 = .ok (.aload_n 0, 1) := by decide +kernel
theorem dX8_partOf_101 : decode cX8_partOf 101 = .ok (.getfield 27, 3) := by decide +kernel
theorem dX8_partOf_104 : decode cX8_partOf 104 = .ok (.iload_n 1, 1) := by decide +kernel
theorem dX8_partOf_105 : decode cX8_partOf 105 = .ok (.iaload, 1) := by decide +kernel
theorem dX8_partOf_106 : decode cX8_partOf 106 = .ok (.i2l, 1) := by decide +kernel
theorem dX8_partOf_107 : decode cX8_partOf 107 = .ok (.lmul, 1) := by decide +kernel
theorem dX8_partOf_108 : decode cX8_partOf 108 = .ok (.lconst 1, 1) := by decide +kernel
theorem dX8_partOf_109 : decode cX8_partOf 109 = .ok (.lsub, 1) := by decide +kernel
theorem dX8_partOf_110 : decode cX8_partOf 110 = .ok (.lstore 6, 2) := by decide +kernel
theorem dX8_partOf_112 : decode cX8_partOf 112 = .ok (.lload 6, 2) := by decide +kernel
theorem dX8_partOf_114 : decode cX8_partOf 114 = .ok (.aload_n 0, 1) := by decide +kernel
theorem dX8_partOf_115 : decode cX8_partOf 115 = .ok (.getfield 30, 3) := by decide +kernel
theorem dX8_partOf_118 : decode cX8_partOf 118 = .ok (.iload_n 1, 1) := by decide +kernel
theorem dX8_partOf_119 : decode cX8_partOf 119 = .ok (.iaload, 1) := by decide +kernel
theorem dX8_partOf_120 : decode cX8_partOf 120 = .ok (.i2l, 1) := by decide +kernel
theorem dX8_partOf_121 : decode cX8_partOf 121 = .ok (.ldiv, 1) := by decide +kernel
theorem dX8_partOf_122 : decode cX8_partOf 122 = .ok (.lload_n 2, 1) := by decide +kernel
theorem dX8_partOf_123 : decode cX8_partOf 123 = .ok (.lcmp, 1) := by decide +kernel
theorem dX8_partOf_124 : decode cX8_partOf 124 = .ok (.ifCond .ge 16, 3) := by decide +kernel
theorem dX8_partOf_127 : decode cX8_partOf 127 = .ok (.lload 6, 2) := by decide +kernel
theorem dX8_partOf_129 : decode cX8_partOf 129 = .ok (.aload_n 0, 1) := by decide +kernel
theorem dX8_partOf_130 : decode cX8_partOf 130 = .ok (.getfield 30, 3) := by decide +kernel
theorem dX8_partOf_133 : decode cX8_partOf 133 = .ok (.iload_n 1, 1) := by decide +kernel
theorem dX8_partOf_134 : decode cX8_partOf 134 = .ok (.iaload, 1) := by decide +kernel
theorem dX8_partOf_135 : decode cX8_partOf 135 = .ok (.i2l, 1) := by decide +kernel
theorem dX8_partOf_136 : decode cX8_partOf 136 = .ok (.ldiv, 1) := by decide +kernel
theorem dX8_partOf_137 : decode cX8_partOf 137 = .ok (.goto 4, 3) := by decide +kernel
theorem dX8_partOf_140 : decode cX8_partOf 140 = .ok (.lload_n 2, 1) := by decide +kernel
theorem dX8_partOf_141 : decode cX8_partOf 141 = .ok (.lstore_n 2, 1) := by decide +kernel
theorem dX8_partOf_142 : decode cX8_partOf 142 = .ok (.lload_n 2, 1) := by decide +kernel
theorem dX8_partOf_143 : decode cX8_partOf 143 = .ok (.l2i, 1) := by decide +kernel
theorem dX8_partOf_144 : decode cX8_partOf 144 = .ok (.ireturn, 1) := by decide +kernel
theorem dX8_settleParts_0 : decode cX8_settleParts 0 = .ok (.aload_n 0, 1) := by decide +kernel
theorem dX8_settleParts_1 : decode cX8_settleParts 1 = .ok (.invokevirtual 141, 3) := by decide +kernel
theorem dX8_settleParts_4 : decode cX8_settleParts 4 = .ok (.iconst 0, 1) := by decide +kernel
theorem dX8_settleParts_5 : decode cX8_settleParts 5 = .ok (.istore_n 1, 1) := by decide +kernel
theorem dX8_settleParts_6 : decode cX8_settleParts 6 = .ok (.iload_n 1, 1) := by decide +kernel
theorem dX8_settleParts_7 : decode cX8_settleParts 7 = .ok (.aload_n 0, 1) := by decide +kernel
theorem dX8_settleParts_8 : decode cX8_settleParts 8 = .ok (.getfield 132, 3) := by decide +kernel
theorem dX8_settleParts_11 : decode cX8_settleParts 11 = .ok (.if_icmp .ge 78, 3) := by decide +kernel
theorem dX8_settleParts_14 : decode cX8_settleParts 14 = .ok (.aload_n 0, 1) := by decide +kernel
theorem dX8_settleParts_15 : decode cX8_settleParts 15 = .ok (.getfield 84, 3) := by decide +kernel
theorem dX8_settleParts_18 : decode cX8_settleParts 18 = .ok (.iload_n 1, 1) := by decide +kernel
theorem dX8_settleParts_19 : decode cX8_settleParts 19 = .ok (.iaload, 1) := by decide +kernel
theorem dX8_settleParts_20 : decode cX8_settleParts 20 = .ok (.istore_n 2, 1) := by decide +kernel
theorem dX8_settleParts_21 : decode cX8_settleParts 21 = .ok (.aload_n 0, 1) := by decide +kernel
theorem dX8_settleParts_22 : decode cX8_settleParts 22 = .ok (.getfield 63, 3) := by decide +kernel
theorem dX8_settleParts_25 : decode cX8_settleParts 25 = .ok (.iload_n 2, 1) := by decide +kernel
theorem dX8_settleParts_26 : decode cX8_settleParts 26 = .ok (.baload, 1) := by decide +kernel
theorem dX8_settleParts_27 : decode cX8_settleParts 27 = .ok (.ifCond .eq 25, 3) := by decide +kernel
theorem dX8_settleParts_30 : decode cX8_settleParts 30 = .ok (.aload_n 0, 1) := by decide +kernel
theorem dX8_settleParts_31 : decode cX8_settleParts 31 = .ok (.aload_n 0, 1) := by decide +kernel
theorem dX8_settleParts_32 : decode cX8_settleParts 32 = .ok (.getfield 69, 3) := by decide +kernel
theorem dX8_settleParts_35 : decode cX8_settleParts 35 = .ok (.iload_n 2, 1) := by decide +kernel
theorem dX8_settleParts_36 : decode cX8_settleParts 36 = .ok (.iaload, 1) := by decide +kernel
theorem dX8_settleParts_37 : decode cX8_settleParts 37 = .ok (.invokevirtual 151, 3) := by decide +kernel
theorem dX8_settleParts_40 : decode cX8_settleParts 40 = .ok (.iconst 1, 1) := by decide +kernel
theorem dX8_settleParts_41 : decode cX8_settleParts 41 = .ok (.if_icmp .ne 11, 3) := by decide +kernel
theorem dX8_settleParts_44 : decode cX8_settleParts 44 = .ok (.aload_n 0, 1) := by decide +kernel
theorem dX8_settleParts_45 : decode cX8_settleParts 45 = .ok (.iload_n 2, 1) := by decide +kernel
theorem dX8_settleParts_46 : decode cX8_settleParts 46 = .ok (.invokevirtual 154, 3) := by decide +kernel
theorem dX8_settleParts_49 : decode cX8_settleParts 49 = .ok (.goto 4, 3) := by decide +kernel
theorem dX8_settleParts_52 : decode cX8_settleParts 52 = .ok (.iconst 0, 1) := by decide +kernel
theorem dX8_settleParts_53 : decode cX8_settleParts 53 = .ok (.istore_n 3, 1) := by decide +kernel
theorem dX8_settleParts_54 : decode cX8_settleParts 54 = .ok (.iload_n 3, 1) := by decide +kernel
theorem dX8_settleParts_55 : decode cX8_settleParts 55 = .ok (.ifCond .le 28, 3) := by decide +kernel
theorem dX8_settleParts_58 : decode cX8_settleParts 58 = .ok (.aload_n 0, 1) := by decide +kernel
theorem dX8_settleParts_59 : decode cX8_settleParts 59 = .ok (.iload_n 2, 1) := by decide +kernel
theorem dX8_settleParts_60 : decode cX8_settleParts 60 = .ok (.iload_n 3, 1) := by decide +kernel
theorem dX8_settleParts_61 : decode cX8_settleParts 61 = .ok (.aload_n 0, 1) := by decide +kernel
theorem dX8_settleParts_62 : decode cX8_settleParts 62 = .ok (.getfield 30, 3) := by decide +kernel
theorem dX8_settleParts_65 : decode cX8_settleParts 65 = .ok (.iload_n 2, 1) := by decide +kernel
theorem dX8_settleParts_66 : decode cX8_settleParts 66 = .ok (.iaload, 1) := by decide +kernel
theorem dX8_settleParts_67 : decode cX8_settleParts 67 = .ok (.i2l, 1) := by decide +kernel
theorem dX8_settleParts_68 : decode cX8_settleParts 68 = .ok (.iload_n 3, 1) := by decide +kernel
theorem dX8_settleParts_69 : decode cX8_settleParts 69 = .ok (.i2l, 1) := by decide +kernel
theorem dX8_settleParts_70 : decode cX8_settleParts 70 = .ok (.lmul, 1) := by decide +kernel
theorem dX8_settleParts_71 : decode cX8_settleParts 71 = .ok (.aload_n 0, 1) := by decide +kernel
theorem dX8_settleParts_72 : decode cX8_settleParts 72 = .ok (.getfield 27, 3) := by decide +kernel
theorem dX8_settleParts_75 : decode cX8_settleParts 75 = .ok (.iload_n 2, 1) := by decide +kernel
theorem dX8_settleParts_76 : decode cX8_settleParts 76 = .ok (.iaload, 1) := by decide +kernel
theorem dX8_settleParts_77 : decode cX8_settleParts 77 = .ok (.i2l, 1) := by decide +kernel
theorem dX8_settleParts_78 : decode cX8_settleParts 78 = .ok (.ldiv, 1) := by decide +kernel
theorem dX8_settleParts_79 : decode cX8_settleParts 79 = .ok (.l2i, 1) := by decide +kernel
theorem dX8_settleParts_80 : decode cX8_settleParts 80 = .ok (.invokevirtual 147, 3) := by decide +kernel
theorem dX8_settleParts_83 : decode cX8_settleParts 83 = .ok (.iinc 1 1, 3) := by decide +kernel
theorem dX8_settleParts_86 : decode cX8_settleParts 86 = .ok (.goto (-80), 3) := by decide +kernel
theorem dX8_settleParts_89 : decode cX8_settleParts 89 = .ok (.return_, 1) := by decide +kernel
theorem dX8_oneDay_0 : decode cX8_oneDay 0 = .ok (.aload_n 0, 1) := by decide +kernel
theorem dX8_oneDay_1 : decode cX8_oneDay 1 = .ok (.dup, 1) := by decide +kernel
theorem dX8_oneDay_2 : decode cX8_oneDay 2 = .ok (.getfield 129, 3) := by decide +kernel
theorem dX8_oneDay_5 : decode cX8_oneDay 5 = .ok (.iconst 1, 1) := by decide +kernel
theorem dX8_oneDay_6 : decode cX8_oneDay 6 = .ok (.iadd, 1) := by decide +kernel
theorem dX8_oneDay_7 : decode cX8_oneDay 7 = .ok (.putfield 129, 3) := by decide +kernel
theorem dX8_oneDay_10 : decode cX8_oneDay 10 = .ok (.aload_n 0, 1) := by decide +kernel
theorem dX8_oneDay_11 : decode cX8_oneDay 11 = .ok (.getfield 129, 3) := by decide +kernel
theorem dX8_oneDay_14 : decode cX8_oneDay 14 = .ok (.invokestatic 110, 3) := by decide +kernel
theorem dX8_oneDay_17 : decode cX8_oneDay 17 = .ok (.iconst 5, 1) := by decide +kernel
theorem dX8_oneDay_18 : decode cX8_oneDay 18 = .ok (.if_icmp .gt 15, 3) := by decide +kernel
theorem dX8_oneDay_21 : decode cX8_oneDay 21 = .ok (.aload_n 0, 1) := by decide +kernel
theorem dX8_oneDay_22 : decode cX8_oneDay 22 = .ok (.getfield 7, 3) := by decide +kernel
theorem dX8_oneDay_25 : decode cX8_oneDay 25 = .ok (.aload_n 0, 1) := by decide +kernel
theorem dX8_oneDay_26 : decode cX8_oneDay 26 = .ok (.getfield 129, 3) := by decide +kernel
theorem dX8_oneDay_29 : decode cX8_oneDay 29 = .ok (.baload, 1) := by decide +kernel
theorem dX8_oneDay_30 : decode cX8_oneDay 30 = .ok (.ifCond .eq 5, 3) := by decide +kernel
theorem dX8_oneDay_33 : decode cX8_oneDay 33 = .ok (.iconst 0, 1) := by decide +kernel
theorem dX8_oneDay_34 : decode cX8_oneDay 34 = .ok (.ireturn, 1) := by decide +kernel
theorem dX8_oneDay_35 : decode cX8_oneDay 35 = .ok (.aload_n 0, 1) := by decide +kernel
theorem dX8_oneDay_36 : decode cX8_oneDay 36 = .ok (.invokevirtual 157, 3) := by decide +kernel
theorem dX8_oneDay_39 : decode cX8_oneDay 39 = .ok (.istore_n 1, 1) := by decide +kernel
theorem dX8_oneDay_40 : decode cX8_oneDay 40 = .ok (.aload_n 0, 1) := by decide +kernel
theorem dX8_oneDay_41 : decode cX8_oneDay 41 = .ok (.invokevirtual 161, 3) := by decide +kernel
theorem dX8_oneDay_44 : decode cX8_oneDay 44 = .ok (.iconst 0, 1) := by decide +kernel
theorem dX8_oneDay_45 : decode cX8_oneDay 45 = .ok (.istore_n 2, 1) := by decide +kernel
theorem dX8_oneDay_46 : decode cX8_oneDay 46 = .ok (.iload_n 2, 1) := by decide +kernel
theorem dX8_oneDay_47 : decode cX8_oneDay 47 = .ok (.aload_n 0, 1) := by decide +kernel
theorem dX8_oneDay_48 : decode cX8_oneDay 48 = .ok (.getfield 107, 3) := by decide +kernel
theorem dX8_oneDay_51 : decode cX8_oneDay 51 = .ok (.if_icmp .ge 91, 3) := by decide +kernel
theorem dX8_oneDay_54 : decode cX8_oneDay 54 = .ok (.aload_n 0, 1) := by decide +kernel
theorem dX8_oneDay_55 : decode cX8_oneDay 55 = .ok (.getfield 48, 3) := by decide +kernel
theorem dX8_oneDay_58 : decode cX8_oneDay 58 = .ok (.iload_n 2, 1) := by decide +kernel
theorem dX8_oneDay_59 : decode cX8_oneDay 59 = .ok (.iaload, 1) := by decide +kernel
theorem dX8_oneDay_60 : decode cX8_oneDay 60 = .ok (.iconst 1, 1) := by decide +kernel
theorem dX8_oneDay_61 : decode cX8_oneDay 61 = .ok (.if_icmp .ne 75, 3) := by decide +kernel
theorem dX8_oneDay_64 : decode cX8_oneDay 64 = .ok (.aload_n 0, 1) := by decide +kernel
theorem dX8_oneDay_65 : decode cX8_oneDay 65 = .ok (.getfield 51, 3) := by decide +kernel
theorem dX8_oneDay_68 : decode cX8_oneDay 68 = .ok (.iload_n 2, 1) := by decide +kernel
theorem dX8_oneDay_69 : decode cX8_oneDay 69 = .ok (.iaload, 1) := by decide +kernel
theorem dX8_oneDay_70 : decode cX8_oneDay 70 = .ok (.aload_n 0, 1) := by decide +kernel
theorem dX8_oneDay_71 : decode cX8_oneDay 71 = .ok (.getfield 129, 3) := by decide +kernel
theorem dX8_oneDay_74 : decode cX8_oneDay 74 = .ok (.if_icmp .gt 62, 3) := by decide +kernel
theorem dX8_oneDay_77 : decode cX8_oneDay 77 = .ok (.aload_n 0, 1) := by decide +kernel
theorem dX8_oneDay_78 : decode cX8_oneDay 78 = .ok (.getfield 66, 3) := by decide +kernel
theorem dX8_oneDay_81 : decode cX8_oneDay 81 = .ok (.iload_n 2, 1) := by decide +kernel
theorem dX8_oneDay_82 : decode cX8_oneDay 82 = .ok (.dup2, 1) := by decide +kernel
theorem dX8_oneDay_83 : decode cX8_oneDay 83 = .ok (.iaload, 1) := by decide +kernel
theorem dX8_oneDay_84 : decode cX8_oneDay 84 = .ok (.iconst 1, 1) := by decide +kernel
theorem dX8_oneDay_85 : decode cX8_oneDay 85 = .ok (.iadd, 1) := by decide +kernel
theorem dX8_oneDay_86 : decode cX8_oneDay 86 = .ok (.iastore, 1) := by decide +kernel
theorem dX8_oneDay_87 : decode cX8_oneDay 87 = .ok (.aload_n 0, 1) := by decide +kernel
theorem dX8_oneDay_88 : decode cX8_oneDay 88 = .ok (.getfield 48, 3) := by decide +kernel
theorem dX8_oneDay_91 : decode cX8_oneDay 91 = .ok (.iload_n 2, 1) := by decide +kernel
theorem dX8_oneDay_92 : decode cX8_oneDay 92 = .ok (.aload_n 0, 1) := by decide +kernel
theorem dX8_oneDay_93 : decode cX8_oneDay 93 = .ok (.getfield 66, 3) := by decide +kernel
theorem dX8_oneDay_96 : decode cX8_oneDay 96 = .ok (.iload_n 2, 1) := by decide +kernel
theorem dX8_oneDay_97 : decode cX8_oneDay 97 = .ok (.iaload, 1) := by decide +kernel
theorem dX8_oneDay_98 : decode cX8_oneDay 98 = .ok (.bipush 10, 2) := by decide +kernel
theorem dX8_oneDay_100 : decode cX8_oneDay 100 = .ok (.if_icmp .ne 7, 3) := by decide +kernel
theorem dX8_oneDay_103 : decode cX8_oneDay 103 = .ok (.iconst 4, 1) := by decide +kernel
theorem dX8_oneDay_104 : decode cX8_oneDay 104 = .ok (.goto 4, 3) := by decide +kernel
theorem dX8_oneDay_107 : decode cX8_oneDay 107 = .ok (.iconst 1, 1) := by decide +kernel
theorem dX8_oneDay_108 : decode cX8_oneDay 108 = .ok (.iastore, 1) := by decide +kernel
theorem dX8_oneDay_109 : decode cX8_oneDay 109 = .ok (.aload_n 0, 1) := by decide +kernel
theorem dX8_oneDay_110 : decode cX8_oneDay 110 = .ok (.getfield 69, 3) := by decide +kernel
theorem dX8_oneDay_113 : decode cX8_oneDay 113 = .ok (.iload_n 2, 1) := by decide +kernel
theorem dX8_oneDay_114 : decode cX8_oneDay 114 = .ok (.aload_n 0, 1) := by decide +kernel
theorem dX8_oneDay_115 : decode cX8_oneDay 115 = .ok (.getfield 66, 3) := by decide +kernel
theorem dX8_oneDay_118 : decode cX8_oneDay 118 = .ok (.iload_n 2, 1) := by decide +kernel
theorem dX8_oneDay_119 : decode cX8_oneDay 119 = .ok (.iaload, 1) := by decide +kernel
theorem dX8_oneDay_120 : decode cX8_oneDay 120 = .ok (.bipush 10, 2) := by decide +kernel
theorem dX8_oneDay_122 : decode cX8_oneDay 122 = .ok (.if_icmp .ne 7, 3) := by decide +kernel
theorem dX8_oneDay_125 : decode cX8_oneDay 125 = .ok (.iconst (-1), 1) := by decide +kernel
theorem dX8_oneDay_126 : decode cX8_oneDay 126 = .ok (.goto 9, 3) := by decide +kernel
theorem dX8_oneDay_129 : decode cX8_oneDay 129 = .ok (.aload_n 0, 1) := by decide +kernel
theorem dX8_oneDay_130 : decode cX8_oneDay 130 = .ok (.getfield 69, 3) := by decide +kernel
theorem dX8_oneDay_133 : decode cX8_oneDay 133 = .ok (.iload_n 2, 1) := by decide +kernel
theorem dX8_oneDay_134 : decode cX8_oneDay 134 = .ok (.iaload, 1) := by decide +kernel
theorem dX8_oneDay_135 : decode cX8_oneDay 135 = .ok (.iastore, 1) := by decide +kernel
theorem dX8_oneDay_136 : decode cX8_oneDay 136 = .ok (.iinc 2 1, 3) := by decide +kernel
theorem dX8_oneDay_139 : decode cX8_oneDay 139 = .ok (.goto (-93), 3) := by decide +kernel
theorem dX8_oneDay_142 : decode cX8_oneDay 142 = .ok (.iload_n 1, 1) := by decide +kernel
theorem dX8_oneDay_143 : decode cX8_oneDay 143 = .ok (.ireturn, 1) := by decide +kernel
theorem dX8_fund_0 : decode cX8_fund 0 = .ok (.aload_n 0, 1) := by decide +kernel
theorem dX8_fund_1 : decode cX8_fund 1 = .ok (.iload_n 1, 1) := by decide +kernel
theorem dX8_fund_2 : decode cX8_fund 2 = .ok (.invokestatic 164, 3) := by decide +kernel
theorem dX8_fund_5 : decode cX8_fund 5 = .ok (.ifCond .eq 22, 3) := by decide +kernel
theorem dX8_fund_8 : decode cX8_fund 8 = .ok (.iload_n 2, 1) := by decide +kernel
theorem dX8_fund_9 : decode cX8_fund 9 = .ok (.invokestatic 167, 3) := by decide +kernel
theorem dX8_fund_12 : decode cX8_fund 12 = .ok (.ifCond .eq 15, 3) := by decide +kernel
theorem dX8_fund_15 : decode cX8_fund 15 = .ok (.iload_n 3, 1) := by decide +kernel
theorem dX8_fund_16 : decode cX8_fund 16 = .ok (.i2l, 1) := by decide +kernel
theorem dX8_fund_17 : decode cX8_fund 17 = .ok (.lconst 1, 1) := by decide +kernel
theorem dX8_fund_18 : decode cX8_fund 18 = .ok (.ldc2_w 170, 3) := by decide +kernel
theorem dX8_fund_21 : decode cX8_fund 21 = .ok (.invokestatic 99, 3) := by decide +kernel
theorem dX8_fund_24 : decode cX8_fund 24 = .ok (.ifCond .ne 7, 3) := by decide +kernel
theorem dX8_fund_27 : decode cX8_fund 27 = .ok (.iconst 1, 1) := by decide +kernel
theorem dX8_fund_28 : decode cX8_fund 28 = .ok (.goto 4, 3) := by decide +kernel
theorem dX8_fund_31 : decode cX8_fund 31 = .ok (.iconst 0, 1) := by decide +kernel
theorem dX8_fund_32 : decode cX8_fund 32 = .ok (.putfield 93, 3) := by decide +kernel
theorem dX8_fund_35 : decode cX8_fund 35 = .ok (.aload_n 0, 1) := by decide +kernel
theorem dX8_fund_36 : decode cX8_fund 36 = .ok (.getfield 93, 3) := by decide +kernel
theorem dX8_fund_39 : decode cX8_fund 39 = .ok (.ifCond .ne 28, 3) := by decide +kernel
theorem dX8_fund_42 : decode cX8_fund 42 = .ok (.aload_n 0, 1) := by decide +kernel
theorem dX8_fund_43 : decode cX8_fund 43 = .ok (.getfield 13, 3) := by decide +kernel
theorem dX8_fund_46 : decode cX8_fund 46 = .ok (.iload_n 1, 1) := by decide +kernel
theorem dX8_fund_47 : decode cX8_fund 47 = .ok (.iload_n 2, 1) := by decide +kernel
theorem dX8_fund_48 : decode cX8_fund 48 = .ok (.invokestatic 118, 3) := by decide +kernel
theorem dX8_fund_51 : decode cX8_fund 51 = .ok (.laload, 1) := by decide +kernel
theorem dX8_fund_52 : decode cX8_fund 52 = .ok (.iload_n 3, 1) := by decide +kernel
theorem dX8_fund_53 : decode cX8_fund 53 = .ok (.i2l, 1) := by decide +kernel
theorem dX8_fund_54 : decode cX8_fund 54 = .ok (.ladd, 1) := by decide +kernel
theorem dX8_fund_55 : decode cX8_fund 55 = .ok (.ldc2_w 172, 3) := by decide +kernel
theorem dX8_fund_58 : decode cX8_fund 58 = .ok (.lcmp, 1) := by decide +kernel
theorem dX8_fund_59 : decode cX8_fund 59 = .ok (.ifCond .le 8, 3) := by decide +kernel
theorem dX8_fund_62 : decode cX8_fund 62 = .ok (.aload_n 0, 1) := by decide +kernel
theorem dX8_fund_63 : decode cX8_fund 63 = .ok (.iconst 2, 1) := by decide +kernel
theorem dX8_fund_64 : decode cX8_fund 64 = .ok (.putfield 93, 3) := by decide +kernel
theorem dX8_fund_67 : decode cX8_fund 67 = .ok (.aload_n 0, 1) := by decide +kernel
theorem dX8_fund_68 : decode cX8_fund 68 = .ok (.getfield 93, 3) := by decide +kernel
theorem dX8_fund_71 : decode cX8_fund 71 = .ok (.ifCond .le 5, 3) := by decide +kernel
theorem dX8_fund_74 : decode cX8_fund 74 = .ok (.lconst 0, 1) := by decide +kernel
theorem dX8_fund_75 : decode cX8_fund 75 = .ok (.lreturn, 1) := by decide +kernel
theorem dX8_fund_76 : decode cX8_fund 76 = .ok (.aload_n 0, 1) := by decide +kernel
theorem dX8_fund_77 : decode cX8_fund 77 = .ok (.getfield 13, 3) := by decide +kernel
theorem dX8_fund_80 : decode cX8_fund 80 = .ok (.iload_n 1, 1) := by decide +kernel
theorem dX8_fund_81 : decode cX8_fund 81 = .ok (.iload_n 2, 1) := by decide +kernel
theorem dX8_fund_82 : decode cX8_fund 82 = .ok (.invokestatic 118, 3) := by decide +kernel
theorem dX8_fund_85 : decode cX8_fund 85 = .ok (.dup2, 1) := by decide +kernel
theorem dX8_fund_86 : decode cX8_fund 86 = .ok (.laload, 1) := by decide +kernel
theorem dX8_fund_87 : decode cX8_fund 87 = .ok (.iload_n 3, 1) := by decide +kernel
theorem dX8_fund_88 : decode cX8_fund 88 = .ok (.i2l, 1) := by decide +kernel
theorem dX8_fund_89 : decode cX8_fund 89 = .ok (.ladd, 1) := by decide +kernel
theorem dX8_fund_90 : decode cX8_fund 90 = .ok (.lastore, 1) := by decide +kernel
theorem dX8_fund_91 : decode cX8_fund 91 = .ok (.aload_n 0, 1) := by decide +kernel
theorem dX8_fund_92 : decode cX8_fund 92 = .ok (.getfield 13, 3) := by decide +kernel
theorem dX8_fund_95 : decode cX8_fund 95 = .ok (.iload_n 1, 1) := by decide +kernel
theorem dX8_fund_96 : decode cX8_fund 96 = .ok (.iload_n 2, 1) := by decide +kernel
theorem dX8_fund_97 : decode cX8_fund 97 = .ok (.invokestatic 118, 3) := by decide +kernel
theorem dX8_fund_100 : decode cX8_fund 100 = .ok (.laload, 1) := by decide +kernel
theorem dX8_fund_101 : decode cX8_fund 101 = .ok (.lreturn, 1) := by decide +kernel
theorem dX8_holiday_0 : decode cX8_holiday 0 = .ok (.aload_n 0, 1) := by decide +kernel
theorem dX8_holiday_1 : decode cX8_holiday 1 = .ok (.iload_n 1, 1) := by decide +kernel
theorem dX8_holiday_2 : decode cX8_holiday 2 = .ok (.i2l, 1) := by decide +kernel
theorem dX8_holiday_3 : decode cX8_holiday 3 = .ok (.aload_n 0, 1) := by decide +kernel
theorem dX8_holiday_4 : decode cX8_holiday 4 = .ok (.getfield 129, 3) := by decide +kernel
theorem dX8_holiday_7 : decode cX8_holiday 7 = .ok (.iconst 1, 1) := by decide +kernel
theorem dX8_holiday_8 : decode cX8_holiday 8 = .ok (.iadd, 1) := by decide +kernel
theorem dX8_holiday_9 : decode cX8_holiday 9 = .ok (.i2l, 1) := by decide +kernel
theorem dX8_holiday_10 : decode cX8_holiday 10 = .ok (.ldc2_w 174, 3) := by decide +kernel
theorem dX8_holiday_13 : decode cX8_holiday 13 = .ok (.invokestatic 99, 3) := by decide +kernel
theorem dX8_holiday_16 : decode cX8_holiday 16 = .ok (.ifCond .eq 7, 3) := by decide +kernel
theorem dX8_holiday_19 : decode cX8_holiday 19 = .ok (.iconst 0, 1) := by decide +kernel
theorem dX8_holiday_20 : decode cX8_holiday 20 = .ok (.goto 4, 3) := by decide +kernel
theorem dX8_holiday_23 : decode cX8_holiday 23 = .ok (.iconst 1, 1) := by decide +kernel
theorem dX8_holiday_24 : decode cX8_holiday 24 = .ok (.putfield 93, 3) := by decide +kernel
theorem dX8_holiday_27 : decode cX8_holiday 27 = .ok (.aload_n 0, 1) := by decide +kernel
theorem dX8_holiday_28 : decode cX8_holiday 28 = .ok (.getfield 93, 3) := by decide +kernel
theorem dX8_holiday_31 : decode cX8_holiday 31 = .ok (.ifCond .le 5, 3) := by decide +kernel
theorem dX8_holiday_34 : decode cX8_holiday 34 = .ok (.iconst 0, 1) := by decide +kernel
theorem dX8_holiday_35 : decode cX8_holiday 35 = .ok (.ireturn, 1) := by decide +kernel
theorem dX8_holiday_36 : decode cX8_holiday 36 = .ok (.aload_n 0, 1) := by decide +kernel
theorem dX8_holiday_37 : decode cX8_holiday 37 = .ok (.getfield 7, 3) := by decide +kernel
theorem dX8_holiday_40 : decode cX8_holiday 40 = .ok (.iload_n 1, 1) := by decide +kernel
theorem dX8_holiday_41 : decode cX8_holiday 41 = .ok (.baload, 1) := by decide +kernel
theorem dX8_holiday_42 : decode cX8_holiday 42 = .ok (.istore_n 2, 1) := by decide +kernel
theorem dX8_holiday_43 : decode cX8_holiday 43 = .ok (.aload_n 0, 1) := by decide +kernel
theorem dX8_holiday_44 : decode cX8_holiday 44 = .ok (.getfield 7, 3) := by decide +kernel
theorem dX8_holiday_47 : decode cX8_holiday 47 = .ok (.iload_n 1, 1) := by decide +kernel
theorem dX8_holiday_48 : decode cX8_holiday 48 = .ok (.iconst 1, 1) := by decide +kernel
theorem dX8_holiday_49 : decode cX8_holiday 49 = .ok (.bastore, 1) := by decide +kernel
theorem dX8_holiday_50 : decode cX8_holiday 50 = .ok (.iload_n 2, 1) := by decide +kernel
theorem dX8_holiday_51 : decode cX8_holiday 51 = .ok (.ifCond .ne 7, 3) := by decide +kernel
theorem dX8_holiday_54 : decode cX8_holiday 54 = .ok (.iconst 1, 1) := by decide +kernel
theorem dX8_holiday_55 : decode cX8_holiday 55 = .ok (.goto 4, 3) := by decide +kernel
theorem dX8_holiday_58 : decode cX8_holiday 58 = .ok (.iconst 0, 1) := by decide +kernel
theorem dX8_holiday_59 : decode cX8_holiday 59 = .ok (.ireturn, 1) := by decide +kernel
theorem dX8_match_0 : decode cX8_match 0 = .ok (.iconst (-1), 1) := by decide +kernel
theorem dX8_match_1 : decode cX8_match 1 = .ok (.istore_n 2, 1) := by decide +kernel
theorem dX8_match_2 : decode cX8_match 2 = .ok (.aload_n 0, 1) := by decide +kernel
theorem dX8_match_3 : decode cX8_match 3 = .ok (.getfield 107, 3) := by decide +kernel
theorem dX8_match_6 : decode cX8_match 6 = .ok (.iconst 1, 1) := by decide +kernel
theorem dX8_match_7 : decode cX8_match 7 = .ok (.isub, 1) := by decide +kernel
theorem dX8_match_8 : decode cX8_match 8 = .ok (.istore_n 3, 1) := by decide +kernel
theorem dX8_match_9 : decode cX8_match 9 = .ok (.iload_n 3, 1) := by decide +kernel
theorem dX8_match_10 : decode cX8_match 10 = .ok (.ifCond .lt 164, 3) := by decide +kernel
theorem dX8_match_13 : decode cX8_match 13 = .ok (.aload_n 0, 1) := by decide +kernel
theorem dX8_match_14 : decode cX8_match 14 = .ok (.getfield 48, 3) := by decide +kernel
theorem dX8_match_17 : decode cX8_match 17 = .ok (.iload_n 3, 1) := by decide +kernel
theorem dX8_match_18 : decode cX8_match 18 = .ok (.iaload, 1) := by decide +kernel
theorem dX8_match_19 : decode cX8_match 19 = .ok (.ifCond .ne 62, 3) := by decide +kernel
theorem dX8_match_22 : decode cX8_match 22 = .ok (.aload_n 0, 1) := by decide +kernel
theorem dX8_match_23 : decode cX8_match 23 = .ok (.getfield 45, 3) := by decide +kernel
theorem dX8_match_26 : decode cX8_match 26 = .ok (.iload_n 3, 1) := by decide +kernel
theorem dX8_match_27 : decode cX8_match 27 = .ok (.iaload, 1) := by decide +kernel
theorem dX8_match_28 : decode cX8_match 28 = .ok (.iload_n 1, 1) := by decide +kernel
theorem dX8_match_29 : decode cX8_match 29 = .ok (.if_icmp .ne 52, 3) := by decide +kernel
theorem dX8_match_32 : decode cX8_match 32 = .ok (.aload_n 0, 1) := by decide +kernel
theorem dX8_match_33 : decode cX8_match 33 = .ok (.getfield 17, 3) := by decide +kernel
theorem dX8_match_36 : decode cX8_match 36 = .ok (.iload_n 3, 1) := by decide +kernel
theorem dX8_match_37 : decode cX8_match 37 = .ok (.iaload, 1) := by decide +kernel
theorem dX8_match_38 : decode cX8_match 38 = .ok (.aload_n 0, 1) := by decide +kernel
theorem dX8_match_39 : decode cX8_match 39 = .ok (.getfield 90, 3) := by decide +kernel
theorem dX8_match_42 : decode cX8_match 42 = .ok (.iconst 0, 1) := by decide +kernel
theorem dX8_match_43 : decode cX8_match 43 = .ok (.iaload, 1) := by decide +kernel
theorem dX8_match_44 : decode cX8_match 44 = .ok (.if_icmp .ne 37, 3) := by decide +kernel
theorem dX8_match_47 : decode cX8_match 47 = .ok (.aload_n 0, 1) := by decide +kernel
theorem dX8_match_48 : decode cX8_match 48 = .ok (.getfield 21, 3) := by decide +kernel
theorem dX8_match_51 : decode cX8_match 51 = .ok (.iload_n 3, 1) := by decide +kernel
theorem dX8_match_52 : decode cX8_match 52 = .ok (.iaload, 1) := by decide +kernel
theorem dX8_match_53 : decode cX8_match 53 = .ok (.aload_n 0, 1) := by decide +kernel
theorem dX8_match_54 : decode cX8_match 54 = .ok (.getfield 90, 3) := by decide +kernel
theorem dX8_match_57 : decode cX8_match 57 = .ok (.iconst 1, 1) := by decide +kernel
theorem dX8_match_58 : decode cX8_match 58 = .ok (.iaload, 1) := by decide +kernel
theorem dX8_match_59 : decode cX8_match 59 = .ok (.if_icmp .ne 22, 3) := by decide +kernel
theorem dX8_match_62 : decode cX8_match 62 = .ok (.aload_n 0, 1) := by decide +kernel
theorem dX8_match_63 : decode cX8_match 63 = .ok (.getfield 24, 3) := by decide +kernel
theorem dX8_match_66 : decode cX8_match 66 = .ok (.iload_n 3, 1) := by decide +kernel
theorem dX8_match_67 : decode cX8_match 67 = .ok (.iaload, 1) := by decide +kernel
theorem dX8_match_68 : decode cX8_match 68 = .ok (.aload_n 0, 1) := by decide +kernel
theorem dX8_match_69 : decode cX8_match 69 = .ok (.getfield 90, 3) := by decide +kernel
theorem dX8_match_72 : decode cX8_match 72 = .ok (.iconst 2, 1) := by decide +kernel
theorem dX8_match_73 : decode cX8_match 73 = .ok (.iaload, 1) := by decide +kernel
theorem dX8_match_74 : decode cX8_match 74 = .ok (.if_icmp .ne 7, 3) := by decide +kernel
theorem dX8_match_77 : decode cX8_match 77 = .ok (.iconst 1, 1) := by decide +kernel
theorem dX8_match_78 : decode cX8_match 78 = .ok (.goto 4, 3) := by decide +kernel
theorem dX8_match_81 : decode cX8_match 81 = .ok (.iconst 0, 1) := by decide +kernel
theorem dX8_match_82 : decode cX8_match 82 = .ok (.istore 4, 2) := by decide +kernel
theorem dX8_match_84 : decode cX8_match 84 = .ok (.iload 4, 2) := by decide +kernel
theorem dX8_match_86 : decode cX8_match 86 = .ok (.ifCond .eq 68, 3) := by decide +kernel
theorem dX8_match_89 : decode cX8_match 89 = .ok (.aload_n 0, 1) := by decide +kernel
theorem dX8_match_90 : decode cX8_match 90 = .ok (.getfield 33, 3) := by decide +kernel
theorem dX8_match_93 : decode cX8_match 93 = .ok (.iload_n 3, 1) := by decide +kernel
theorem dX8_match_94 : decode cX8_match 94 = .ok (.iaload, 1) := by decide +kernel
theorem dX8_match_95 : decode cX8_match 95 = .ok (.aload_n 0, 1) := by decide +kernel
theorem dX8_match_96 : decode cX8_match 96 = .ok (.getfield 90, 3) := by decide +kernel
theorem dX8_match_99 : decode cX8_match 99 = .ok (.iconst 3, 1) := by decide +kernel
theorem dX8_match_100 : decode cX8_match 100 = .ok (.iaload, 1) := by decide +kernel
theorem dX8_match_101 : decode cX8_match 101 = .ok (.if_icmp .ne 53, 3) := by decide +kernel
theorem dX8_match_104 : decode cX8_match 104 = .ok (.aload_n 0, 1) := by decide +kernel
theorem dX8_match_105 : decode cX8_match 105 = .ok (.getfield 36, 3) := by decide +kernel
theorem dX8_match_108 : decode cX8_match 108 = .ok (.iload_n 3, 1) := by decide +kernel
theorem dX8_match_109 : decode cX8_match 109 = .ok (.iaload, 1) := by decide +kernel
theorem dX8_match_110 : decode cX8_match 110 = .ok (.aload_n 0, 1) := by decide +kernel
theorem dX8_match_111 : decode cX8_match 111 = .ok (.getfield 90, 3) := by decide +kernel
theorem dX8_match_114 : decode cX8_match 114 = .ok (.iconst 4, 1) := by decide +kernel
theorem dX8_match_115 : decode cX8_match 115 = .ok (.iaload, 1) := by decide +kernel
theorem dX8_match_116 : decode cX8_match 116 = .ok (.if_icmp .ne 38, 3) := by decide +kernel
theorem dX8_match_119 : decode cX8_match 119 = .ok (.aload_n 0, 1) := by decide +kernel
theorem dX8_match_120 : decode cX8_match 120 = .ok (.getfield 39, 3) := by decide +kernel
theorem dX8_match_123 : decode cX8_match 123 = .ok (.iload_n 3, 1) := by decide +kernel
theorem dX8_match_124 : decode cX8_match 124 = .ok (.iaload, 1) := by decide +kernel
theorem dX8_match_125 : decode cX8_match 125 = .ok (.aload_n 0, 1) := by decide +kernel
theorem dX8_match_126 : decode cX8_match 126 = .ok (.getfield 90, 3) := by decide +kernel
theorem dX8_match_129 : decode cX8_match 129 = .ok (.iconst 5, 1) := by decide +kernel
theorem dX8_match_130 : decode cX8_match 130 = .ok (.iaload, 1) := by decide +kernel
theorem dX8_match_131 : decode cX8_match 131 = .ok (.if_icmp .ne 23, 3) := by decide +kernel
theorem dX8_match_134 : decode cX8_match 134 = .ok (.aload_n 0, 1) := by decide +kernel
theorem dX8_match_135 : decode cX8_match 135 = .ok (.getfield 42, 3) := by decide +kernel
theorem dX8_match_138 : decode cX8_match 138 = .ok (.iload_n 3, 1) := by decide +kernel
theorem dX8_match_139 : decode cX8_match 139 = .ok (.iaload, 1) := by decide +kernel
theorem dX8_match_140 : decode cX8_match 140 = .ok (.aload_n 0, 1) := by decide +kernel
theorem dX8_match_141 : decode cX8_match 141 = .ok (.getfield 90, 3) := by decide +kernel
theorem dX8_match_144 : decode cX8_match 144 = .ok (.bipush 6, 2) := by decide +kernel
theorem dX8_match_146 : decode cX8_match 146 = .ok (.iaload, 1) := by decide +kernel
theorem dX8_match_147 : decode cX8_match 147 = .ok (.if_icmp .ne 7, 3) := by decide +kernel
theorem dX8_match_150 : decode cX8_match 150 = .ok (.iconst 1, 1) := by decide +kernel
theorem dX8_match_151 : decode cX8_match 151 = .ok (.goto 4, 3) := by decide +kernel
theorem dX8_match_154 : decode cX8_match 154 = .ok (.iconst 0, 1) := by decide +kernel
theorem dX8_match_155 : decode cX8_match 155 = .ok (.istore 4, 2) := by decide +kernel
theorem dX8_match_157 : decode cX8_match 157 = .ok (.iload 4, 2) := by decide +kernel
theorem dX8_match_159 : decode cX8_match 159 = .ok (.ifCond .eq 7, 3) := by decide +kernel
theorem dX8_match_162 : decode cX8_match 162 = .ok (.iload_n 3, 1) := by decide +kernel
theorem dX8_match_163 : decode cX8_match 163 = .ok (.goto 4, 3) := by decide +kernel
theorem dX8_match_166 : decode cX8_match 166 = .ok (.iload_n 2, 1) := by decide +kernel
theorem dX8_match_167 : decode cX8_match 167 = .ok (.istore_n 2, 1) := by decide +kernel
theorem dX8_match_168 : decode cX8_match 168 = .ok (.iinc 3 (-1), 3) := by decide +kernel
theorem dX8_match_171 : decode cX8_match 171 = .ok (.goto (-162), 3) := by decide +kernel
theorem dX8_match_174 : decode cX8_match 174 = .ok (.iload_n 2, 1) := by decide +kernel
theorem dX8_match_175 : decode cX8_match 175 = .ok (.ireturn, 1) := by decide +kernel
theorem dX8_addTrade_0 : decode cX8_addTrade 0 = .ok (.aload_n 0, 1) := by decide +kernel
theorem dX8_addTrade_1 : decode cX8_addTrade 1 = .ok (.getfield 17, 3) := by decide +kernel
theorem dX8_addTrade_4 : decode cX8_addTrade 4 = .ok (.aload_n 0, 1) := by decide +kernel
theorem dX8_addTrade_5 : decode cX8_addTrade 5 = .ok (.getfield 107, 3) := by decide +kernel
theorem dX8_addTrade_8 : decode cX8_addTrade 8 = .ok (.aload_n 0, 1) := by decide +kernel
theorem dX8_addTrade_9 : decode cX8_addTrade 9 = .ok (.getfield 90, 3) := by decide +kernel
theorem dX8_addTrade_12 : decode cX8_addTrade 12 = .ok (.iconst 0, 1) := by decide +kernel
theorem dX8_addTrade_13 : decode cX8_addTrade 13 = .ok (.iaload, 1) := by decide +kernel
theorem dX8_addTrade_14 : decode cX8_addTrade 14 = .ok (.iastore, 1) := by decide +kernel
theorem dX8_addTrade_15 : decode cX8_addTrade 15 = .ok (.aload_n 0, 1) := by decide +kernel
theorem dX8_addTrade_16 : decode cX8_addTrade 16 = .ok (.getfield 21, 3) := by decide +kernel
theorem dX8_addTrade_19 : decode cX8_addTrade 19 = .ok (.aload_n 0, 1) := by decide +kernel
theorem dX8_addTrade_20 : decode cX8_addTrade 20 = .ok (.getfield 107, 3) := by decide +kernel
theorem dX8_addTrade_23 : decode cX8_addTrade 23 = .ok (.aload_n 0, 1) := by decide +kernel
theorem dX8_addTrade_24 : decode cX8_addTrade 24 = .ok (.getfield 90, 3) := by decide +kernel
theorem dX8_addTrade_27 : decode cX8_addTrade 27 = .ok (.iconst 1, 1) := by decide +kernel
theorem dX8_addTrade_28 : decode cX8_addTrade 28 = .ok (.iaload, 1) := by decide +kernel
theorem dX8_addTrade_29 : decode cX8_addTrade 29 = .ok (.iastore, 1) := by decide +kernel
theorem dX8_addTrade_30 : decode cX8_addTrade 30 = .ok (.aload_n 0, 1) := by decide +kernel
theorem dX8_addTrade_31 : decode cX8_addTrade 31 = .ok (.getfield 24, 3) := by decide +kernel
theorem dX8_addTrade_34 : decode cX8_addTrade 34 = .ok (.aload_n 0, 1) := by decide +kernel
theorem dX8_addTrade_35 : decode cX8_addTrade 35 = .ok (.getfield 107, 3) := by decide +kernel
theorem dX8_addTrade_38 : decode cX8_addTrade 38 = .ok (.aload_n 0, 1) := by decide +kernel
theorem dX8_addTrade_39 : decode cX8_addTrade 39 = .ok (.getfield 90, 3) := by decide +kernel
theorem dX8_addTrade_42 : decode cX8_addTrade 42 = .ok (.iconst 2, 1) := by decide +kernel
theorem dX8_addTrade_43 : decode cX8_addTrade 43 = .ok (.iaload, 1) := by decide +kernel
theorem dX8_addTrade_44 : decode cX8_addTrade 44 = .ok (.iastore, 1) := by decide +kernel
theorem dX8_addTrade_45 : decode cX8_addTrade 45 = .ok (.aload_n 0, 1) := by decide +kernel
theorem dX8_addTrade_46 : decode cX8_addTrade 46 = .ok (.getfield 33, 3) := by decide +kernel
theorem dX8_addTrade_49 : decode cX8_addTrade 49 = .ok (.aload_n 0, 1) := by decide +kernel
theorem dX8_addTrade_50 : decode cX8_addTrade 50 = .ok (.getfield 107, 3) := by decide +kernel
theorem dX8_addTrade_53 : decode cX8_addTrade 53 = .ok (.aload_n 0, 1) := by decide +kernel
theorem dX8_addTrade_54 : decode cX8_addTrade 54 = .ok (.getfield 90, 3) := by decide +kernel
theorem dX8_addTrade_57 : decode cX8_addTrade 57 = .ok (.iconst 3, 1) := by decide +kernel
theorem dX8_addTrade_58 : decode cX8_addTrade 58 = .ok (.iaload, 1) := by decide +kernel
theorem dX8_addTrade_59 : decode cX8_addTrade 59 = .ok (.iastore, 1) := by decide +kernel
theorem dX8_addTrade_60 : decode cX8_addTrade 60 = .ok (.aload_n 0, 1) := by decide +kernel
theorem dX8_addTrade_61 : decode cX8_addTrade 61 = .ok (.getfield 36, 3) := by decide +kernel
theorem dX8_addTrade_64 : decode cX8_addTrade 64 = .ok (.aload_n 0, 1) := by decide +kernel
theorem dX8_addTrade_65 : decode cX8_addTrade 65 = .ok (.getfield 107, 3) := by decide +kernel
theorem dX8_addTrade_68 : decode cX8_addTrade 68 = .ok (.aload_n 0, 1) := by decide +kernel
theorem dX8_addTrade_69 : decode cX8_addTrade 69 = .ok (.getfield 90, 3) := by decide +kernel
theorem dX8_addTrade_72 : decode cX8_addTrade 72 = .ok (.iconst 4, 1) := by decide +kernel
theorem dX8_addTrade_73 : decode cX8_addTrade 73 = .ok (.iaload, 1) := by decide +kernel
theorem dX8_addTrade_74 : decode cX8_addTrade 74 = .ok (.iastore, 1) := by decide +kernel
theorem dX8_addTrade_75 : decode cX8_addTrade 75 = .ok (.aload_n 0, 1) := by decide +kernel
theorem dX8_addTrade_76 : decode cX8_addTrade 76 = .ok (.getfield 27, 3) := by decide +kernel
theorem dX8_addTrade_79 : decode cX8_addTrade 79 = .ok (.aload_n 0, 1) := by decide +kernel
theorem dX8_addTrade_80 : decode cX8_addTrade 80 = .ok (.getfield 107, 3) := by decide +kernel
theorem dX8_addTrade_83 : decode cX8_addTrade 83 = .ok (.aload_n 0, 1) := by decide +kernel
theorem dX8_addTrade_84 : decode cX8_addTrade 84 = .ok (.getfield 90, 3) := by decide +kernel
theorem dX8_addTrade_87 : decode cX8_addTrade 87 = .ok (.iconst 3, 1) := by decide +kernel
theorem dX8_addTrade_88 : decode cX8_addTrade 88 = .ok (.iaload, 1) := by decide +kernel
theorem dX8_addTrade_89 : decode cX8_addTrade 89 = .ok (.iastore, 1) := by decide +kernel
theorem dX8_addTrade_90 : decode cX8_addTrade 90 = .ok (.aload_n 0, 1) := by decide +kernel
theorem dX8_addTrade_91 : decode cX8_addTrade 91 = .ok (.getfield 30, 3) := by decide +kernel
theorem dX8_addTrade_94 : decode cX8_addTrade 94 = .ok (.aload_n 0, 1) := by decide +kernel
theorem dX8_addTrade_95 : decode cX8_addTrade 95 = .ok (.getfield 107, 3) := by decide +kernel
theorem dX8_addTrade_98 : decode cX8_addTrade 98 = .ok (.aload_n 0, 1) := by decide +kernel
theorem dX8_addTrade_99 : decode cX8_addTrade 99 = .ok (.getfield 90, 3) := by decide +kernel
theorem dX8_addTrade_102 : decode cX8_addTrade 102 = .ok (.iconst 4, 1) := by decide +kernel
theorem dX8_addTrade_103 : decode cX8_addTrade 103 = .ok (.iaload, 1) := by decide +kernel
theorem dX8_addTrade_104 : decode cX8_addTrade 104 = .ok (.iastore, 1) := by decide +kernel
theorem dX8_addTrade_105 : decode cX8_addTrade 105 = .ok (.aload_n 0, 1) := by decide +kernel
theorem dX8_addTrade_106 : decode cX8_addTrade 106 = .ok (.getfield 39, 3) := by decide +kernel
theorem dX8_addTrade_109 : decode cX8_addTrade 109 = .ok (.aload_n 0, 1) := by decide +kernel
theorem dX8_addTrade_110 : decode cX8_addTrade 110 = .ok (.getfield 107, 3) := by decide +kernel
theorem dX8_addTrade_113 : decode cX8_addTrade 113 = .ok (.aload_n 0, 1) := by decide +kernel
theorem dX8_addTrade_114 : decode cX8_addTrade 114 = .ok (.getfield 90, 3) := by decide +kernel
theorem dX8_addTrade_117 : decode cX8_addTrade 117 = .ok (.iconst 5, 1) := by decide +kernel
theorem dX8_addTrade_118 : decode cX8_addTrade 118 = .ok (.iaload, 1) := by decide +kernel
theorem dX8_addTrade_119 : decode cX8_addTrade 119 = .ok (.iastore, 1) := by decide +kernel
theorem dX8_addTrade_120 : decode cX8_addTrade 120 = .ok (.aload_n 0, 1) := by decide +kernel
theorem dX8_addTrade_121 : decode cX8_addTrade 121 = .ok (.getfield 42, 3) := by decide +kernel
theorem dX8_addTrade_124 : decode cX8_addTrade 124 = .ok (.aload_n 0, 1) := by decide +kernel
theorem dX8_addTrade_125 : decode cX8_addTrade 125 = .ok (.getfield 107, 3) := by decide +kernel
theorem dX8_addTrade_128 : decode cX8_addTrade 128 = .ok (.aload_n 0, 1) := by decide +kernel
theorem dX8_addTrade_129 : decode cX8_addTrade 129 = .ok (.getfield 90, 3) := by decide +kernel
theorem dX8_addTrade_132 : decode cX8_addTrade 132 = .ok (.bipush 6, 2) := by decide +kernel
theorem dX8_addTrade_134 : decode cX8_addTrade 134 = .ok (.iaload, 1) := by decide +kernel
theorem dX8_addTrade_135 : decode cX8_addTrade 135 = .ok (.iastore, 1) := by decide +kernel
theorem dX8_addTrade_136 : decode cX8_addTrade 136 = .ok (.aload_n 0, 1) := by decide +kernel
theorem dX8_addTrade_137 : decode cX8_addTrade 137 = .ok (.getfield 45, 3) := by decide +kernel
theorem dX8_addTrade_140 : decode cX8_addTrade 140 = .ok (.aload_n 0, 1) := by decide +kernel
theorem dX8_addTrade_141 : decode cX8_addTrade 141 = .ok (.getfield 107, 3) := by decide +kernel
theorem dX8_addTrade_144 : decode cX8_addTrade 144 = .ok (.iload_n 1, 1) := by decide +kernel
theorem dX8_addTrade_145 : decode cX8_addTrade 145 = .ok (.iastore, 1) := by decide +kernel
theorem dX8_addTrade_146 : decode cX8_addTrade 146 = .ok (.aload_n 0, 1) := by decide +kernel
theorem dX8_addTrade_147 : decode cX8_addTrade 147 = .ok (.getfield 48, 3) := by decide +kernel
theorem dX8_addTrade_150 : decode cX8_addTrade 150 = .ok (.aload_n 0, 1) := by decide +kernel
theorem dX8_addTrade_151 : decode cX8_addTrade 151 = .ok (.getfield 107, 3) := by decide +kernel
theorem dX8_addTrade_154 : decode cX8_addTrade 154 = .ok (.iconst 0, 1) := by decide +kernel
theorem dX8_addTrade_155 : decode cX8_addTrade 155 = .ok (.iastore, 1) := by decide +kernel
theorem dX8_addTrade_156 : decode cX8_addTrade 156 = .ok (.aload_n 0, 1) := by decide +kernel
theorem dX8_addTrade_157 : decode cX8_addTrade 157 = .ok (.getfield 51, 3) := by decide +kernel
theorem dX8_addTrade_160 : decode cX8_addTrade 160 = .ok (.aload_n 0, 1) := by decide +kernel
theorem dX8_addTrade_161 : decode cX8_addTrade 161 = .ok (.getfield 107, 3) := by decide +kernel
theorem dX8_addTrade_164 : decode cX8_addTrade 164 = .ok (.iconst (-1), 1) := by decide +kernel
theorem dX8_addTrade_165 : decode cX8_addTrade 165 = .ok (.iastore, 1) := by decide +kernel
theorem dX8_addTrade_166 : decode cX8_addTrade 166 = .ok (.aload_n 0, 1) := by decide +kernel
theorem dX8_addTrade_167 : decode cX8_addTrade 167 = .ok (.getfield 60, 3) := by decide +kernel
theorem dX8_addTrade_170 : decode cX8_addTrade 170 = .ok (.aload_n 0, 1) := by decide +kernel
theorem dX8_addTrade_171 : decode cX8_addTrade 171 = .ok (.getfield 107, 3) := by decide +kernel
theorem dX8_addTrade_174 : decode cX8_addTrade 174 = .ok (.iconst 1, 1) := by decide +kernel
theorem dX8_addTrade_175 : decode cX8_addTrade 175 = .ok (.iastore, 1) := by decide +kernel
theorem dX8_addTrade_176 : decode cX8_addTrade 176 = .ok (.aload_n 0, 1) := by decide +kernel
theorem dX8_addTrade_177 : decode cX8_addTrade 177 = .ok (.getfield 69, 3) := by decide +kernel
theorem dX8_addTrade_180 : decode cX8_addTrade 180 = .ok (.aload_n 0, 1) := by decide +kernel
theorem dX8_addTrade_181 : decode cX8_addTrade 181 = .ok (.getfield 107, 3) := by decide +kernel
theorem dX8_addTrade_184 : decode cX8_addTrade 184 = .ok (.iconst (-1), 1) := by decide +kernel
theorem dX8_addTrade_185 : decode cX8_addTrade 185 = .ok (.iastore, 1) := by decide +kernel
theorem dX8_addTrade_186 : decode cX8_addTrade 186 = .ok (.aload_n 0, 1) := by decide +kernel
theorem dX8_addTrade_187 : decode cX8_addTrade 187 = .ok (.dup, 1) := by decide +kernel
theorem dX8_addTrade_188 : decode cX8_addTrade 188 = .ok (.getfield 107, 3) := by decide +kernel
theorem dX8_addTrade_191 : decode cX8_addTrade 191 = .ok (.iconst 1, 1) := by decide +kernel
theorem dX8_addTrade_192 : decode cX8_addTrade 192 = .ok (.iadd, 1) := by decide +kernel
theorem dX8_addTrade_193 : decode cX8_addTrade 193 = .ok (.putfield 107, 3) := by decide +kernel
theorem dX8_addTrade_196 : decode cX8_addTrade 196 = .ok (.return_, 1) := by decide +kernel
theorem dX8_tell_0 : decode cX8_tell 0 = .ok (.iload_n 1, 1) := by decide +kernel
theorem dX8_tell_1 : decode cX8_tell 1 = .ok (.invokestatic 164, 3) := by decide +kernel
theorem dX8_tell_4 : decode cX8_tell 4 = .ok (.ifCond .eq 32, 3) := by decide +kernel
theorem dX8_tell_7 : decode cX8_tell 7 = .ok (.iload_n 2, 1) := by decide +kernel
