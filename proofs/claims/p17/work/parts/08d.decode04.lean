theorem dX6_held_0 : decode cX6_held 0 = .ok (.aload_n 0, 1) := by decide +kernel
theorem dX6_held_1 : decode cX6_held 1 = .ok (.getfield 11, 3) := by decide +kernel
theorem dX6_held_4 : decode cX6_held 4 = .ok (.iload_n 1, 1) := by decide +kernel
theorem dX6_held_5 : decode cX6_held 5 = .ok (.aaload, 1) := by decide +kernel
theorem dX6_held_6 : decode cX6_held 6 = .ok (.iload_n 2, 1) := by decide +kernel
theorem dX6_held_7 : decode cX6_held 7 = .ok (.iconst (-1), 1) := by decide +kernel
theorem dX6_held_8 : decode cX6_held 8 = .ok (.isub, 1) := by decide +kernel
theorem dX6_held_9 : decode cX6_held 9 = .ok (.laload, 1) := by decide +kernel
theorem dX6_held_10 : decode cX6_held 10 = .ok (.lreturn, 1) := by decide +kernel
theorem dX6_bring_0 : decode cX6_bring 0 = .ok (.aload_n 0, 1) := by decide +kernel
theorem dX6_bring_1 : decode cX6_bring 1 = .ok (.getfield 11, 3) := by decide +kernel
theorem dX6_bring_4 : decode cX6_bring 4 = .ok (.iload_n 1, 1) := by decide +kernel
theorem dX6_bring_5 : decode cX6_bring 5 = .ok (.aaload, 1) := by decide +kernel
theorem dX6_bring_6 : decode cX6_bring 6 = .ok (.iload_n 2, 1) := by decide +kernel
theorem dX6_bring_7 : decode cX6_bring 7 = .ok (.iconst (-1), 1) := by decide +kernel
theorem dX6_bring_8 : decode cX6_bring 8 = .ok (.isub, 1) := by decide +kernel
theorem dX6_bring_9 : decode cX6_bring 9 = .ok (.dup2, 1) := by decide +kernel
theorem dX6_bring_10 : decode cX6_bring 10 = .ok (.laload, 1) := by decide +kernel
theorem dX6_bring_11 : decode cX6_bring 11 = .ok (.iload_n 3, 1) := by decide +kernel
theorem dX6_bring_12 : decode cX6_bring 12 = .ok (.i2l, 1) := by decide +kernel
theorem dX6_bring_13 : decode cX6_bring 13 = .ok (.ladd, 1) := by decide +kernel
theorem dX6_bring_14 : decode cX6_bring 14 = .ok (.lastore, 1) := by decide +kernel
theorem dX6_bring_15 : decode cX6_bring 15 = .ok (.aload_n 0, 1) := by decide +kernel
theorem dX6_bring_16 : decode cX6_bring 16 = .ok (.getfield 16, 3) := by decide +kernel
theorem dX6_bring_19 : decode cX6_bring 19 = .ok (.iload_n 2, 1) := by decide +kernel
theorem dX6_bring_20 : decode cX6_bring 20 = .ok (.iconst (-1), 1) := by decide +kernel
theorem dX6_bring_21 : decode cX6_bring 21 = .ok (.isub, 1) := by decide +kernel
theorem dX6_bring_22 : decode cX6_bring 22 = .ok (.dup2, 1) := by decide +kernel
theorem dX6_bring_23 : decode cX6_bring 23 = .ok (.laload, 1) := by decide +kernel
theorem dX6_bring_24 : decode cX6_bring 24 = .ok (.iload_n 3, 1) := by decide +kernel
theorem dX6_bring_25 : decode cX6_bring 25 = .ok (.i2l, 1) := by decide +kernel
theorem dX6_bring_26 : decode cX6_bring 26 = .ok (.ladd, 1) := by decide +kernel
theorem dX6_bring_27 : decode cX6_bring 27 = .ok (.lastore, 1) := by decide +kernel
theorem dX6_bring_28 : decode cX6_bring 28 = .ok (.return_, 1) := by decide +kernel
theorem dX6_move_0 : decode cX6_move 0 = .ok (.aload_n 0, 1) := by decide +kernel
theorem dX6_move_1 : decode cX6_move 1 = .ok (.getfield 11, 3) := by decide +kernel
theorem dX6_move_4 : decode cX6_move 4 = .ok (.iload_n 1, 1) := by decide +kernel
theorem dX6_move_5 : decode cX6_move 5 = .ok (.aaload, 1) := by decide +kernel
theorem dX6_move_6 : decode cX6_move 6 = .ok (.iload_n 3, 1) := by decide +kernel
theorem dX6_move_7 : decode cX6_move 7 = .ok (.iconst (-1), 1) := by decide +kernel
theorem dX6_move_8 : decode cX6_move 8 = .ok (.isub, 1) := by decide +kernel
theorem dX6_move_9 : decode cX6_move 9 = .ok (.dup2, 1) := by decide +kernel
theorem dX6_move_10 : decode cX6_move 10 = .ok (.laload, 1) := by decide +kernel
theorem dX6_move_11 : decode cX6_move 11 = .ok (.iload 4, 2) := by decide +kernel
theorem dX6_move_13 : decode cX6_move 13 = .ok (.i2l, 1) := by decide +kernel
theorem dX6_move_14 : decode cX6_move 14 = .ok (.lsub, 1) := by decide +kernel
theorem dX6_move_15 : decode cX6_move 15 = .ok (.lastore, 1) := by decide +kernel
theorem dX6_move_16 : decode cX6_move 16 = .ok (.aload_n 0, 1) := by decide +kernel
theorem dX6_move_17 : decode cX6_move 17 = .ok (.getfield 11, 3) := by decide +kernel
theorem dX6_move_20 : decode cX6_move 20 = .ok (.iload_n 2, 1) := by decide +kernel
theorem dX6_move_21 : decode cX6_move 21 = .ok (.aaload, 1) := by decide +kernel
theorem dX6_move_22 : decode cX6_move 22 = .ok (.iload_n 3, 1) := by decide +kernel
theorem dX6_move_23 : decode cX6_move 23 = .ok (.iconst (-1), 1) := by decide +kernel
theorem dX6_move_24 : decode cX6_move 24 = .ok (.isub, 1) := by decide +kernel
theorem dX6_move_25 : decode cX6_move 25 = .ok (.dup2, 1) := by decide +kernel
theorem dX6_move_26 : decode cX6_move 26 = .ok (.laload, 1) := by decide +kernel
theorem dX6_move_27 : decode cX6_move 27 = .ok (.iload 4, 2) := by decide +kernel
theorem dX6_move_29 : decode cX6_move 29 = .ok (.i2l, 1) := by decide +kernel
theorem dX6_move_30 : decode cX6_move 30 = .ok (.ladd, 1) := by decide +kernel
theorem dX6_move_31 : decode cX6_move 31 = .ok (.lastore, 1) := by decide +kernel
theorem dX6_move_32 : decode cX6_move 32 = .ok (.return_, 1) := by decide +kernel
theorem dX6_isAstray_0 : decode cX6_isAstray 0 = .ok (.lconst 0, 1) := by decide +kernel
theorem dX6_isAstray_1 : decode cX6_isAstray 1 = .ok (.lstore_n 2, 1) := by decide +kernel
theorem dX6_isAstray_2 : decode cX6_isAstray 2 = .ok (.iconst 0, 1) := by decide +kernel
theorem dX6_isAstray_3 : decode cX6_isAstray 3 = .ok (.istore 4, 2) := by decide +kernel
theorem dX6_isAstray_5 : decode cX6_isAstray 5 = .ok (.iconst 0, 1) := by decide +kernel
theorem dX6_isAstray_6 : decode cX6_isAstray 6 = .ok (.istore 5, 2) := by decide +kernel
theorem dX6_isAstray_8 : decode cX6_isAstray 8 = .ok (.iload 5, 2) := by decide +kernel
theorem dX6_isAstray_10 : decode cX6_isAstray 10 = .ok (.bipush 16, 2) := by decide +kernel
theorem dX6_isAstray_12 : decode cX6_isAstray 12 = .ok (.if_icmp .ge 43, 3) := by decide +kernel
theorem dX6_isAstray_15 : decode cX6_isAstray 15 = .ok (.lload_n 2, 1) := by decide +kernel
theorem dX6_isAstray_16 : decode cX6_isAstray 16 = .ok (.aload_n 0, 1) := by decide +kernel
theorem dX6_isAstray_17 : decode cX6_isAstray 17 = .ok (.iload 5, 2) := by decide +kernel
theorem dX6_isAstray_19 : decode cX6_isAstray 19 = .ok (.iload_n 1, 1) := by decide +kernel
theorem dX6_isAstray_20 : decode cX6_isAstray 20 = .ok (.invokevirtual 20, 3) := by decide +kernel
theorem dX6_isAstray_23 : decode cX6_isAstray 23 = .ok (.ladd, 1) := by decide +kernel
theorem dX6_isAstray_24 : decode cX6_isAstray 24 = .ok (.lstore_n 2, 1) := by decide +kernel
theorem dX6_isAstray_25 : decode cX6_isAstray 25 = .ok (.iload 4, 2) := by decide +kernel
theorem dX6_isAstray_27 : decode cX6_isAstray 27 = .ok (.ifCond .ne 15, 3) := by decide +kernel
theorem dX6_isAstray_30 : decode cX6_isAstray 30 = .ok (.aload_n 0, 1) := by decide +kernel
theorem dX6_isAstray_31 : decode cX6_isAstray 31 = .ok (.iload 5, 2) := by decide +kernel
theorem dX6_isAstray_33 : decode cX6_isAstray 33 = .ok (.iload_n 1, 1) := by decide +kernel
theorem dX6_isAstray_34 : decode cX6_isAstray 34 = .ok (.invokevirtual 20, 3) := by decide +kernel
theorem dX6_isAstray_37 : decode cX6_isAstray 37 = .ok (.lconst 0, 1) := by decide +kernel
theorem dX6_isAstray_38 : decode cX6_isAstray 38 = .ok (.lcmp, 1) := by decide +kernel
theorem dX6_isAstray_39 : decode cX6_isAstray 39 = .ok (.ifCond .ge 7, 3) := by decide +kernel
theorem dX6_isAstray_42 : decode cX6_isAstray 42 = .ok (.iconst 1, 1) := by decide +kernel
theorem dX6_isAstray_43 : decode cX6_isAstray 43 = .ok (.goto 4, 3) := by decide +kernel
theorem dX6_isAstray_46 : decode cX6_isAstray 46 = .ok (.iconst 0, 1) := by decide +kernel
theorem dX6_isAstray_47 : decode cX6_isAstray 47 = .ok (.istore 4, 2) := by decide +kernel
theorem dX6_isAstray_49 : decode cX6_isAstray 49 = .ok (.iinc 5 1, 3) := by decide +kernel
theorem dX6_isAstray_52 : decode cX6_isAstray 52 = .ok (.goto (-44), 3) := by decide +kernel
theorem dX6_isAstray_55 : decode cX6_isAstray 55 = .ok (.iload 4, 2) := by decide +kernel
theorem dX6_isAstray_57 : decode cX6_isAstray 57 = .ok (.ifCond .ne 16, 3) := by decide +kernel
theorem dX6_isAstray_60 : decode cX6_isAstray 60 = .ok (.lload_n 2, 1) := by decide +kernel
theorem dX6_isAstray_61 : decode cX6_isAstray 61 = .ok (.aload_n 0, 1) := by decide +kernel
theorem dX6_isAstray_62 : decode cX6_isAstray 62 = .ok (.getfield 16, 3) := by decide +kernel
theorem dX6_isAstray_65 : decode cX6_isAstray 65 = .ok (.iload_n 1, 1) := by decide +kernel
theorem dX6_isAstray_66 : decode cX6_isAstray 66 = .ok (.iconst (-1), 1) := by decide +kernel
theorem dX6_isAstray_67 : decode cX6_isAstray 67 = .ok (.isub, 1) := by decide +kernel
theorem dX6_isAstray_68 : decode cX6_isAstray 68 = .ok (.laload, 1) := by decide +kernel
theorem dX6_isAstray_69 : decode cX6_isAstray 69 = .ok (.lcmp, 1) := by decide +kernel
theorem dX6_isAstray_70 : decode cX6_isAstray 70 = .ok (.ifCond .eq 7, 3) := by decide +kernel
theorem dX6_isAstray_73 : decode cX6_isAstray 73 = .ok (.iconst 1, 1) := by decide +kernel
theorem dX6_isAstray_74 : decode cX6_isAstray 74 = .ok (.goto 4, 3) := by decide +kernel
theorem dX6_isAstray_77 : decode cX6_isAstray 77 = .ok (.iconst 0, 1) := by decide +kernel
theorem dX6_isAstray_78 : decode cX6_isAstray 78 = .ok (.ireturn, 1) := by decide +kernel
theorem dX7_init_0 : decode cX7_init 0 = .ok (.aload_n 0, 1) := by decide +kernel
theorem dX7_init_1 : decode cX7_init 1 = .ok (.invokespecial 3, 3) := by decide +kernel
theorem dX7_init_4 : decode cX7_init 4 = .ok (.aload_n 0, 1) := by decide +kernel
theorem dX7_init_5 : decode cX7_init 5 = .ok (.new 9, 3) := by decide +kernel
theorem dX7_init_8 : decode cX7_init 8 = .ok (.dup, 1) := by decide +kernel
theorem dX7_init_9 : decode cX7_init 9 = .ok (.invokespecial 11, 3) := by decide +kernel
theorem dX7_init_12 : decode cX7_init 12 = .ok (.putfield 12, 3) := by decide +kernel
theorem dX7_init_15 : decode cX7_init 15 = .ok (.aload_n 0, 1) := by decide +kernel
theorem dX7_init_16 : decode cX7_init 16 = .ok (.new 16, 3) := by decide +kernel
theorem dX7_init_19 : decode cX7_init 19 = .ok (.dup, 1) := by decide +kernel
theorem dX7_init_20 : decode cX7_init 20 = .ok (.invokespecial 18, 3) := by decide +kernel
theorem dX7_init_23 : decode cX7_init 23 = .ok (.putfield 19, 3) := by decide +kernel
theorem dX7_init_26 : decode cX7_init 26 = .ok (.aload_n 0, 1) := by decide +kernel
theorem dX7_init_27 : decode cX7_init 27 = .ok (.new 23, 3) := by decide +kernel
theorem dX7_init_30 : decode cX7_init 30 = .ok (.dup, 1) := by decide +kernel
theorem dX7_init_31 : decode cX7_init 31 = .ok (.invokespecial 25, 3) := by decide +kernel
theorem dX7_init_34 : decode cX7_init 34 = .ok (.putfield 26, 3) := by decide +kernel
theorem dX7_init_37 : decode cX7_init 37 = .ok (.aload_n 0, 1) := by decide +kernel
theorem dX7_init_38 : decode cX7_init 38 = .ok (.new 30, 3) := by decide +kernel
theorem dX7_init_41 : decode cX7_init 41 = .ok (.dup, 1) := by decide +kernel
theorem dX7_init_42 : decode cX7_init 42 = .ok (.invokespecial 32, 3) := by decide +kernel
theorem dX7_init_45 : decode cX7_init 45 = .ok (.putfield 33, 3) := by decide +kernel
theorem dX7_init_48 : decode cX7_init 48 = .ok (.aload_n 0, 1) := by decide +kernel
theorem dX7_init_49 : decode cX7_init 49 = .ok (.new 30, 3) := by decide +kernel
theorem dX7_init_52 : decode cX7_init 52 = .ok (.dup, 1) := by decide +kernel
theorem dX7_init_53 : decode cX7_init 53 = .ok (.invokespecial 32, 3) := by decide +kernel
theorem dX7_init_56 : decode cX7_init 56 = .ok (.putfield 37, 3) := by decide +kernel
theorem dX7_init_59 : decode cX7_init 59 = .ok (.return_, 1) := by decide +kernel
theorem dX7_fund_0 : decode cX7_fund 0 = .ok (.iload_n 1, 1) := by decide +kernel
theorem dX7_fund_1 : decode cX7_fund 1 = .ok (.invokestatic 40, 3) := by decide +kernel
theorem dX7_fund_4 : decode cX7_fund 4 = .ok (.ifCond .eq 24, 3) := by decide +kernel
theorem dX7_fund_7 : decode cX7_fund 7 = .ok (.iload_n 2, 1) := by decide +kernel
theorem dX7_fund_8 : decode cX7_fund 8 = .ok (.invokestatic 44, 3) := by decide +kernel
theorem dX7_fund_11 : decode cX7_fund 11 = .ok (.ifCond .eq 17, 3) := by decide +kernel
theorem dX7_fund_14 : decode cX7_fund 14 = .ok (.iload_n 3, 1) := by decide +kernel
theorem dX7_fund_15 : decode cX7_fund 15 = .ok (.iconst 1, 1) := by decide +kernel
theorem dX7_fund_16 : decode cX7_fund 16 = .ok (.ldc 47, 2) := by decide +kernel
theorem dX7_fund_18 : decode cX7_fund 18 = .ok (.invokestatic 48, 3) := by decide +kernel
theorem dX7_fund_21 : decode cX7_fund 21 = .ok (.ifCond .eq 7, 3) := by decide +kernel
theorem dX7_fund_24 : decode cX7_fund 24 = .ok (.iconst 1, 1) := by decide +kernel
theorem dX7_fund_25 : decode cX7_fund 25 = .ok (.goto 4, 3) := by decide +kernel
theorem dX7_fund_28 : decode cX7_fund 28 = .ok (.iconst 0, 1) := by decide +kernel
theorem dX7_fund_29 : decode cX7_fund 29 = .ok (.invokestatic 52, 3) := by decide +kernel
theorem dX7_fund_32 : decode cX7_fund 32 = .ok (.aload_n 0, 1) := by decide +kernel
theorem dX7_fund_33 : decode cX7_fund 33 = .ok (.getfield 19, 3) := by decide +kernel
theorem dX7_fund_36 : decode cX7_fund 36 = .ok (.iload_n 1, 1) := by decide +kernel
theorem dX7_fund_37 : decode cX7_fund 37 = .ok (.iload_n 2, 1) := by decide +kernel
theorem dX7_fund_38 : decode cX7_fund 38 = .ok (.invokevirtual 56, 3) := by decide +kernel
theorem dX7_fund_41 : decode cX7_fund 41 = .ok (.iload_n 3, 1) := by decide +kernel
theorem dX7_fund_42 : decode cX7_fund 42 = .ok (.i2l, 1) := by decide +kernel
theorem dX7_fund_43 : decode cX7_fund 43 = .ok (.ladd, 1) := by decide +kernel
theorem dX7_fund_44 : decode cX7_fund 44 = .ok (.ldc2_w 60, 3) := by decide +kernel
theorem dX7_fund_47 : decode cX7_fund 47 = .ok (.lcmp, 1) := by decide +kernel
theorem dX7_fund_48 : decode cX7_fund 48 = .ok (.ifCond .gt 7, 3) := by decide +kernel
theorem dX7_fund_51 : decode cX7_fund 51 = .ok (.iconst 1, 1) := by decide +kernel
theorem dX7_fund_52 : decode cX7_fund 52 = .ok (.goto 4, 3) := by decide +kernel
theorem dX7_fund_55 : decode cX7_fund 55 = .ok (.iconst 0, 1) := by decide +kernel
theorem dX7_fund_56 : decode cX7_fund 56 = .ok (.invokestatic 62, 3) := by decide +kernel
theorem dX7_fund_59 : decode cX7_fund 59 = .ok (.aload_n 0, 1) := by decide +kernel
theorem dX7_fund_60 : decode cX7_fund 60 = .ok (.getfield 19, 3) := by decide +kernel
theorem dX7_fund_63 : decode cX7_fund 63 = .ok (.iload_n 1, 1) := by decide +kernel
theorem dX7_fund_64 : decode cX7_fund 64 = .ok (.iload_n 2, 1) := by decide +kernel
theorem dX7_fund_65 : decode cX7_fund 65 = .ok (.iload_n 3, 1) := by decide +kernel
theorem dX7_fund_66 : decode cX7_fund 66 = .ok (.invokevirtual 65, 3) := by decide +kernel
theorem dX7_fund_69 : decode cX7_fund 69 = .ok (.aload_n 0, 1) := by decide +kernel
theorem dX7_fund_70 : decode cX7_fund 70 = .ok (.getfield 19, 3) := by decide +kernel
theorem dX7_fund_73 : decode cX7_fund 73 = .ok (.iload_n 1, 1) := by decide +kernel
theorem dX7_fund_74 : decode cX7_fund 74 = .ok (.iload_n 2, 1) := by decide +kernel
theorem dX7_fund_75 : decode cX7_fund 75 = .ok (.invokevirtual 56, 3) := by decide +kernel
theorem dX7_fund_78 : decode cX7_fund 78 = .ok (.lreturn, 1) := by decide +kernel
theorem dX7_holiday_0 : decode cX7_holiday 0 = .ok (.iload_n 1, 1) := by decide +kernel
theorem dX7_holiday_1 : decode cX7_holiday 1 = .ok (.aload_n 0, 1) := by decide +kernel
theorem dX7_holiday_2 : decode cX7_holiday 2 = .ok (.getfield 12, 3) := by decide +kernel
theorem dX7_holiday_5 : decode cX7_holiday 5 = .ok (.getfield 69, 3) := by decide +kernel
theorem dX7_holiday_8 : decode cX7_holiday 8 = .ok (.if_icmp .le 14, 3) := by decide +kernel
theorem dX7_holiday_11 : decode cX7_holiday 11 = .ok (.iload_n 1, 1) := by decide +kernel
theorem dX7_holiday_12 : decode cX7_holiday 12 = .ok (.sipush 20000, 3) := by decide +kernel
theorem dX7_holiday_15 : decode cX7_holiday 15 = .ok (.if_icmp .gt 7, 3) := by decide +kernel
theorem dX7_holiday_18 : decode cX7_holiday 18 = .ok (.iconst 1, 1) := by decide +kernel
theorem dX7_holiday_19 : decode cX7_holiday 19 = .ok (.goto 4, 3) := by decide +kernel
theorem dX7_holiday_22 : decode cX7_holiday 22 = .ok (.iconst 0, 1) := by decide +kernel
theorem dX7_holiday_23 : decode cX7_holiday 23 = .ok (.invokestatic 52, 3) := by decide +kernel
theorem dX7_holiday_26 : decode cX7_holiday 26 = .ok (.aload_n 0, 1) := by decide +kernel
theorem dX7_holiday_27 : decode cX7_holiday 27 = .ok (.getfield 12, 3) := by decide +kernel
theorem dX7_holiday_30 : decode cX7_holiday 30 = .ok (.iload_n 1, 1) := by decide +kernel
theorem dX7_holiday_31 : decode cX7_holiday 31 = .ok (.invokevirtual 73, 3) := by decide +kernel
theorem dX7_holiday_34 : decode cX7_holiday 34 = .ok (.ifCond .ne 7, 3) := by decide +kernel
theorem dX7_holiday_37 : decode cX7_holiday 37 = .ok (.iconst 1, 1) := by decide +kernel
theorem dX7_holiday_38 : decode cX7_holiday 38 = .ok (.goto 4, 3) := by decide +kernel
theorem dX7_holiday_41 : decode cX7_holiday 41 = .ok (.iconst 0, 1) := by decide +kernel
theorem dX7_holiday_42 : decode cX7_holiday 42 = .ok (.istore_n 2, 1) := by decide +kernel
theorem dX7_holiday_43 : decode cX7_holiday 43 = .ok (.aload_n 0, 1) := by decide +kernel
theorem dX7_holiday_44 : decode cX7_holiday 44 = .ok (.getfield 12, 3) := by decide +kernel
theorem dX7_holiday_47 : decode cX7_holiday 47 = .ok (.iload_n 1, 1) := by decide +kernel
theorem dX7_holiday_48 : decode cX7_holiday 48 = .ok (.invokevirtual 76, 3) := by decide +kernel
theorem dX7_holiday_51 : decode cX7_holiday 51 = .ok (.iload_n 2, 1) := by decide +kernel
theorem dX7_holiday_52 : decode cX7_holiday 52 = .ok (.ireturn, 1) := by decide +kernel
theorem dX7_tell_0 : decode cX7_tell 0 = .ok (.iload_n 1, 1) := by decide +kernel
theorem dX7_tell_1 : decode cX7_tell 1 = .ok (.invokestatic 40, 3) := by decide +kernel
theorem dX7_tell_4 : decode cX7_tell 4 = .ok (.ifCond .eq 30, 3) := by decide +kernel
theorem dX7_tell_7 : decode cX7_tell 7 = .ok (.iload_n 2, 1) := by decide +kernel
theorem dX7_tell_8 : decode cX7_tell 8 = .ok (.invokestatic 40, 3) := by decide +kernel
theorem dX7_tell_11 : decode cX7_tell 11 = .ok (.ifCond .eq 23, 3) := by decide +kernel
theorem dX7_tell_14 : decode cX7_tell 14 = .ok (.iload_n 1, 1) := by decide +kernel
theorem dX7_tell_15 : decode cX7_tell 15 = .ok (.iload_n 2, 1) := by decide +kernel
theorem dX7_tell_16 : decode cX7_tell 16 = .ok (.if_icmp .eq 18, 3) := by decide +kernel
theorem dX7_tell_19 : decode cX7_tell 19 = .ok (.iload 4, 2) := by decide +kernel
theorem dX7_tell_21 : decode cX7_tell 21 = .ok (.iconst 0, 1) := by decide +kernel
theorem dX7_tell_22 : decode cX7_tell 22 = .ok (.bipush 7, 2) := by decide +kernel
theorem dX7_tell_24 : decode cX7_tell 24 = .ok (.invokestatic 48, 3) := by decide +kernel
theorem dX7_tell_27 : decode cX7_tell 27 = .ok (.ifCond .eq 7, 3) := by decide +kernel
theorem dX7_tell_30 : decode cX7_tell 30 = .ok (.iconst 1, 1) := by decide +kernel
theorem dX7_tell_31 : decode cX7_tell 31 = .ok (.goto 4, 3) := by decide +kernel
theorem dX7_tell_34 : decode cX7_tell 34 = .ok (.iconst 0, 1) := by decide +kernel
theorem dX7_tell_35 : decode cX7_tell 35 = .ok (.invokestatic 52, 3) := by decide +kernel
theorem dX7_tell_38 : decode cX7_tell 38 = .ok (.iload 5, 2) := by decide +kernel
theorem dX7_tell_40 : decode cX7_tell 40 = .ok (.iconst 0, 1) := by decide +kernel
theorem dX7_tell_41 : decode cX7_tell 41 = .ok (.ldc 80, 2) := by decide +kernel
theorem dX7_tell_43 : decode cX7_tell 43 = .ok (.invokestatic 48, 3) := by decide +kernel
theorem dX7_tell_46 : decode cX7_tell 46 = .ok (.ifCond .eq 18, 3) := by decide +kernel
theorem dX7_tell_49 : decode cX7_tell 49 = .ok (.iload 6, 2) := by decide +kernel
theorem dX7_tell_51 : decode cX7_tell 51 = .ok (.iconst 0, 1) := by decide +kernel
theorem dX7_tell_52 : decode cX7_tell 52 = .ok (.ldc 47, 2) := by decide +kernel
theorem dX7_tell_54 : decode cX7_tell 54 = .ok (.invokestatic 48, 3) := by decide +kernel
theorem dX7_tell_57 : decode cX7_tell 57 = .ok (.ifCond .eq 7, 3) := by decide +kernel
theorem dX7_tell_60 : decode cX7_tell 60 = .ok (.iconst 1, 1) := by decide +kernel
theorem dX7_tell_61 : decode cX7_tell 61 = .ok (.goto 4, 3) := by decide +kernel
theorem dX7_tell_64 : decode cX7_tell 64 = .ok (.iconst 0, 1) := by decide +kernel
theorem dX7_tell_65 : decode cX7_tell 65 = .ok (.invokestatic 52, 3) := by decide +kernel
theorem dX7_tell_68 : decode cX7_tell 68 = .ok (.iload 5, 2) := by decide +kernel
theorem dX7_tell_70 : decode cX7_tell 70 = .ok (.ifCond .gt 8, 3) := by decide +kernel
theorem dX7_tell_73 : decode cX7_tell 73 = .ok (.iload 6, 2) := by decide +kernel
theorem dX7_tell_75 : decode cX7_tell 75 = .ok (.ifCond .le 7, 3) := by decide +kernel
theorem dX7_tell_78 : decode cX7_tell 78 = .ok (.iconst 1, 1) := by decide +kernel
theorem dX7_tell_79 : decode cX7_tell 79 = .ok (.goto 4, 3) := by decide +kernel
theorem dX7_tell_82 : decode cX7_tell 82 = .ok (.iconst 0, 1) := by decide +kernel
theorem dX7_tell_83 : decode cX7_tell 83 = .ok (.invokestatic 52, 3) := by decide +kernel
theorem dX7_tell_86 : decode cX7_tell 86 = .ok (.iload 7, 2) := by decide +kernel
theorem dX7_tell_88 : decode cX7_tell 88 = .ok (.iconst 0, 1) := by decide +kernel
theorem dX7_tell_89 : decode cX7_tell 89 = .ok (.aload_n 0, 1) := by decide +kernel
theorem dX7_tell_90 : decode cX7_tell 90 = .ok (.getfield 12, 3) := by decide +kernel
theorem dX7_tell_93 : decode cX7_tell 93 = .ok (.getfield 69, 3) := by decide +kernel
theorem dX7_tell_96 : decode cX7_tell 96 = .ok (.invokestatic 48, 3) := by decide +kernel
theorem dX7_tell_99 : decode cX7_tell 99 = .ok (.ifCond .eq 18, 3) := by decide +kernel
theorem dX7_tell_102 : decode cX7_tell 102 = .ok (.iload 8, 2) := by decide +kernel
theorem dX7_tell_104 : decode cX7_tell 104 = .ok (.iconst 0, 1) := by decide +kernel
theorem dX7_tell_105 : decode cX7_tell 105 = .ok (.bipush 10, 2) := by decide +kernel
theorem dX7_tell_107 : decode cX7_tell 107 = .ok (.invokestatic 48, 3) := by decide +kernel
theorem dX7_tell_110 : decode cX7_tell 110 = .ok (.ifCond .eq 7, 3) := by decide +kernel
theorem dX7_tell_113 : decode cX7_tell 113 = .ok (.iconst 1, 1) := by decide +kernel
theorem dX7_tell_114 : decode cX7_tell 114 = .ok (.goto 4, 3) := by decide +kernel
theorem dX7_tell_117 : decode cX7_tell 117 = .ok (.iconst 0, 1) := by decide +kernel
theorem dX7_tell_118 : decode cX7_tell 118 = .ok (.invokestatic 52, 3) := by decide +kernel
theorem dX7_tell_121 : decode cX7_tell 121 = .ok (.aload_n 0, 1) := by decide +kernel
theorem dX7_tell_122 : decode cX7_tell 122 = .ok (.getfield 33, 3) := by decide +kernel
theorem dX7_tell_125 : decode cX7_tell 125 = .ok (.invokevirtual 81, 3) := by decide +kernel
theorem dX7_tell_128 : decode cX7_tell 128 = .ok (.sipush 150, 3) := by decide +kernel
theorem dX7_tell_131 : decode cX7_tell 131 = .ok (.if_icmp .ge 7, 3) := by decide +kernel
theorem dX7_tell_134 : decode cX7_tell 134 = .ok (.iconst 1, 1) := by decide +kernel
theorem dX7_tell_135 : decode cX7_tell 135 = .ok (.goto 4, 3) := by decide +kernel
theorem dX7_tell_138 : decode cX7_tell 138 = .ok (.iconst 0, 1) := by decide +kernel
theorem dX7_tell_139 : decode cX7_tell 139 = .ok (.invokestatic 62, 3) := by decide +kernel
theorem dX7_tell_142 : decode cX7_tell 142 = .ok (.iload_n 3, 1) := by decide +kernel
theorem dX7_tell_143 : decode cX7_tell 143 = .ok (.ifCond .eq 7, 3) := by decide +kernel
theorem dX7_tell_146 : decode cX7_tell 146 = .ok (.iload_n 1, 1) := by decide +kernel
theorem dX7_tell_147 : decode cX7_tell 147 = .ok (.goto 4, 3) := by decide +kernel
theorem dX7_tell_150 : decode cX7_tell 150 = .ok (.iload_n 2, 1) := by decide +kernel
theorem dX7_tell_151 : decode cX7_tell 151 = .ok (.istore 9, 2) := by decide +kernel
theorem dX7_tell_153 : decode cX7_tell 153 = .ok (.iload_n 3, 1) := by decide +kernel
theorem dX7_tell_154 : decode cX7_tell 154 = .ok (.ifCond .eq 7, 3) := by decide +kernel
theorem dX7_tell_157 : decode cX7_tell 157 = .ok (.iload_n 2, 1) := by decide +kernel
theorem dX7_tell_158 : decode cX7_tell 158 = .ok (.goto 4, 3) := by decide +kernel
theorem dX7_tell_161 : decode cX7_tell 161 = .ok (.iload_n 1, 1) := by decide +kernel
theorem dX7_tell_162 : decode cX7_tell 162 = .ok (.istore 10, 2) := by decide +kernel
theorem dX7_tell_164 : decode cX7_tell 164 = .ok (.new 85, 3) := by decide +kernel
theorem dX7_tell_167 : decode cX7_tell 167 = .ok (.dup, 1) := by decide +kernel
theorem dX7_tell_168 : decode cX7_tell 168 = .ok (.iload 9, 2) := by decide +kernel
theorem dX7_tell_170 : decode cX7_tell 170 = .ok (.iload 10, 2) := by decide +kernel
theorem dX7_tell_172 : decode cX7_tell 172 = .ok (.iload 4, 2) := by decide +kernel
theorem dX7_tell_174 : decode cX7_tell 174 = .ok (.iload 5, 2) := by decide +kernel
theorem dX7_tell_176 : decode cX7_tell 176 = .ok (.iload 6, 2) := by decide +kernel
theorem dX7_tell_178 : decode cX7_tell 178 = .ok (.iload 7, 2) := by decide +kernel
theorem dX7_tell_180 : decode cX7_tell 180 = .ok (.iload 8, 2) := by decide +kernel
theorem dX7_tell_182 : decode cX7_tell 182 = .ok (.invokespecial 87, 3) := by decide +kernel
theorem dX7_tell_185 : decode cX7_tell 185 = .ok (.astore 11, 2) := by decide +kernel
theorem dX7_tell_187 : decode cX7_tell 187 = .ok (.aload_n 0, 1) := by decide +kernel
theorem dX7_tell_188 : decode cX7_tell 188 = .ok (.aload 11, 2) := by decide +kernel
theorem dX7_tell_190 : decode cX7_tell 190 = .ok (.iload_n 2, 1) := by decide +kernel
theorem dX7_tell_191 : decode cX7_tell 191 = .ok (.invokevirtual 90, 3) := by decide +kernel
theorem dX7_tell_194 : decode cX7_tell 194 = .ok (.astore 12, 2) := by decide +kernel
theorem dX7_tell_196 : decode cX7_tell 196 = .ok (.aload 12, 2) := by decide +kernel
theorem dX7_tell_198 : decode cX7_tell 198 = .ok (.ifnull 15, 3) := by decide +kernel
theorem dX7_tell_201 : decode cX7_tell 201 = .ok (.aload_n 0, 1) := by decide +kernel
theorem dX7_tell_202 : decode cX7_tell 202 = .ok (.aload 12, 2) := by decide +kernel
theorem dX7_tell_204 : decode cX7_tell 204 = .ok (.invokevirtual 94, 3) := by decide +kernel
theorem dX7_tell_207 : decode cX7_tell 207 = .ok (.aload 12, 2) := by decide +kernel
theorem dX7_tell_209 : decode cX7_tell 209 = .ok (.getfield 98, 3) := by decide +kernel
theorem dX7_tell_212 : decode cX7_tell 212 = .ok (.ireturn, 1) := by decide +kernel
theorem dX7_tell_213 : decode cX7_tell 213 = .ok (.aload_n 0, 1) := by decide +kernel
theorem dX7_tell_214 : decode cX7_tell 214 = .ok (.getfield 33, 3) := by decide +kernel
theorem dX7_tell_217 : decode cX7_tell 217 = .ok (.new 99, 3) := by decide +kernel
theorem dX7_tell_220 : decode cX7_tell 220 = .ok (.dup, 1) := by decide +kernel
theorem dX7_tell_221 : decode cX7_tell 221 = .ok (.aload_n 0, 1) := by decide +kernel
theorem dX7_tell_222 : decode cX7_tell 222 = .ok (.getfield 33, 3) := by decide +kernel
theorem dX7_tell_225 : decode cX7_tell 225 = .ok (.invokevirtual 81, 3) := by decide +kernel
theorem dX7_tell_228 : decode cX7_tell 228 = .ok (.iload_n 1, 1) := by decide +kernel
theorem dX7_tell_229 : decode cX7_tell 229 = .ok (.aload 11, 2) := by decide +kernel
theorem dX7_tell_231 : decode cX7_tell 231 = .ok (.invokespecial 103, 3) := by decide +kernel
theorem dX7_tell_234 : decode cX7_tell 234 = .ok (.invokevirtual 106, 3) := by decide +kernel
theorem dX7_tell_237 : decode cX7_tell 237 = .ok (.pop, 1) := by decide +kernel
theorem dX7_tell_238 : decode cX7_tell 238 = .ok (.aload_n 0, 1) := by decide +kernel
theorem dX7_tell_239 : decode cX7_tell 239 = .ok (.getfield 33, 3) := by decide +kernel
theorem dX7_tell_242 : decode cX7_tell 242 = .ok (.invokevirtual 81, 3) := by decide +kernel
theorem dX7_tell_245 : decode cX7_tell 245 = .ok (.iconst 1, 1) := by decide +kernel
theorem dX7_tell_246 : decode cX7_tell 246 = .ok (.isub, 1) := by decide +kernel
theorem dX7_tell_247 : decode cX7_tell 247 = .ok (.ireturn, 1) := by decide +kernel
theorem dX7_hold_0 : decode cX7_hold 0 = .ok (.aload_n 0, 1) := by decide +kernel
theorem dX7_hold_1 : decode cX7_hold 1 = .ok (.iload_n 1, 1) := by decide +kernel
theorem dX7_hold_2 : decode cX7_hold 2 = .ok (.invokevirtual 110, 3) := by decide +kernel
theorem dX7_hold_5 : decode cX7_hold 5 = .ok (.astore 4, 2) := by decide +kernel
theorem dX7_hold_7 : decode cX7_hold 7 = .ok (.aload 4, 2) := by decide +kernel
theorem dX7_hold_9 : decode cX7_hold 9 = .ok (.iload_n 2, 1) := by decide +kernel
theorem dX7_hold_10 : decode cX7_hold 10 = .ok (.invokestatic 114, 3) := by decide +kernel
theorem dX7_hold_13 : decode cX7_hold 13 = .ok (.astore 5, 2) := by decide +kernel
theorem dX7_hold_15 : decode cX7_hold 15 = .ok (.aload 4, 2) := by decide +kernel
theorem dX7_hold_17 : decode cX7_hold 17 = .ok (.invokevirtual 118, 3) := by decide +kernel
theorem dX7_hold_20 : decode cX7_hold 20 = .ok (.invokestatic 62, 3) := by decide +kernel
theorem dX7_hold_23 : decode cX7_hold 23 = .ok (.aload 5, 2) := by decide +kernel
theorem dX7_hold_25 : decode cX7_hold 25 = .ok (.getfield 122, 3) := by decide +kernel
theorem dX7_hold_28 : decode cX7_hold 28 = .ok (.iload_n 3, 1) := by decide +kernel
theorem dX7_hold_29 : decode cX7_hold 29 = .ok (.if_icmp .eq 7, 3) := by decide +kernel
theorem dX7_hold_32 : decode cX7_hold 32 = .ok (.iconst 1, 1) := by decide +kernel
theorem dX7_hold_33 : decode cX7_hold 33 = .ok (.goto 4, 3) := by decide +kernel
theorem dX7_hold_36 : decode cX7_hold 36 = .ok (.iconst 0, 1) := by decide +kernel
theorem dX7_hold_37 : decode cX7_hold 37 = .ok (.istore 6, 2) := by decide +kernel
theorem dX7_hold_39 : decode cX7_hold 39 = .ok (.aload 5, 2) := by decide +kernel
theorem dX7_hold_41 : decode cX7_hold 41 = .ok (.iload_n 3, 1) := by decide +kernel
theorem dX7_hold_42 : decode cX7_hold 42 = .ok (.putfield 122, 3) := by decide +kernel
theorem dX7_hold_45 : decode cX7_hold 45 = .ok (.iload 6, 2) := by decide +kernel
theorem dX7_hold_47 : decode cX7_hold 47 = .ok (.ireturn, 1) := by decide +kernel
theorem dX7_rank_0 : decode cX7_rank 0 = .ok (.aload_n 0, 1) := by decide +kernel
theorem dX7_rank_1 : decode cX7_rank 1 = .ok (.iload_n 1, 1) := by decide +kernel
theorem dX7_rank_2 : decode cX7_rank 2 = .ok (.invokevirtual 110, 3) := by decide +kernel
theorem dX7_rank_5 : decode cX7_rank 5 = .ok (.astore 4, 2) := by decide +kernel
theorem dX7_rank_7 : decode cX7_rank 7 = .ok (.iload_n 2, 1) := by decide +kernel
theorem dX7_rank_8 : decode cX7_rank 8 = .ok (.iconst 0, 1) := by decide +kernel
theorem dX7_rank_9 : decode cX7_rank 9 = .ok (.iconst 3, 1) := by decide +kernel
theorem dX7_rank_10 : decode cX7_rank 10 = .ok (.invokestatic 48, 3) := by decide +kernel
theorem dX7_rank_13 : decode cX7_rank 13 = .ok (.invokestatic 52, 3) := by decide +kernel
theorem dX7_rank_16 : decode cX7_rank 16 = .ok (.aload 4, 2) := by decide +kernel
theorem dX7_rank_18 : decode cX7_rank 18 = .ok (.invokevirtual 118, 3) := by decide +kernel
theorem dX7_rank_21 : decode cX7_rank 21 = .ok (.invokestatic 62, 3) := by decide +kernel
theorem dX7_rank_24 : decode cX7_rank 24 = .ok (.aload 4, 2) := by decide +kernel
theorem dX7_rank_26 : decode cX7_rank 26 = .ok (.getfield 128, 3) := by decide +kernel
theorem dX7_rank_29 : decode cX7_rank 29 = .ok (.istore 5, 2) := by decide +kernel
theorem dX7_rank_31 : decode cX7_rank 31 = .ok (.aload 4, 2) := by decide +kernel
theorem dX7_rank_33 : decode cX7_rank 33 = .ok (.iload_n 2, 1) := by decide +kernel
theorem dX7_rank_34 : decode cX7_rank 34 = .ok (.putfield 128, 3) := by decide +kernel
theorem dX7_rank_37 : decode cX7_rank 37 = .ok (.aload 4, 2) := by decide +kernel
theorem dX7_rank_39 : decode cX7_rank 39 = .ok (.iload_n 3, 1) := by decide +kernel
theorem dX7_rank_40 : decode cX7_rank 40 = .ok (.putfield 131, 3) := by decide +kernel
theorem dX7_rank_43 : decode cX7_rank 43 = .ok (.iload 5, 2) := by decide +kernel
theorem dX7_rank_45 : decode cX7_rank 45 = .ok (.ireturn, 1) := by decide +kernel
theorem dX7_link_0 : decode cX7_link 0 = .ok (.aload_n 0, 1) := by decide +kernel
theorem dX7_link_1 : decode cX7_link 1 = .ok (.iload_n 1, 1) := by decide +kernel
theorem dX7_link_2 : decode cX7_link 2 = .ok (.invokevirtual 110, 3) := by decide +kernel
theorem dX7_link_5 : decode cX7_link 5 = .ok (.getfield 134, 3) := by decide +kernel
theorem dX7_link_8 : decode cX7_link 8 = .ok (.astore_n 3, 1) := by decide +kernel
theorem dX7_link_9 : decode cX7_link 9 = .ok (.aload_n 0, 1) := by decide +kernel
theorem dX7_link_10 : decode cX7_link 10 = .ok (.iload_n 2, 1) := by decide +kernel
theorem dX7_link_11 : decode cX7_link 11 = .ok (.invokevirtual 110, 3) := by decide +kernel
theorem dX7_link_14 : decode cX7_link 14 = .ok (.getfield 134, 3) := by decide +kernel
theorem dX7_link_17 : decode cX7_link 17 = .ok (.astore 4, 2) := by decide +kernel
theorem dX7_link_19 : decode cX7_link 19 = .ok (.aload_n 3, 1) := by decide +kernel
theorem dX7_link_20 : decode cX7_link 20 = .ok (.ifnull 8, 3) := by decide +kernel
theorem dX7_link_23 : decode cX7_link 23 = .ok (.aload 4, 2) := by decide +kernel
theorem dX7_link_25 : decode cX7_link 25 = .ok (.ifnonnull 11, 3) := by decide +kernel
theorem dX7_link_28 : decode cX7_link 28 = .ok (.new 138, 3) := by decide +kernel
theorem dX7_link_31 : decode cX7_link 31 = .ok (.dup, 1) := by decide +kernel
theorem dX7_link_32 : decode cX7_link 32 = .ok (.invokespecial 140, 3) := by decide +kernel
theorem dX7_link_35 : decode cX7_link 35 = .ok (.athrow, 1) := by decide +kernel
theorem dX7_link_36 : decode cX7_link 36 = .ok (.aload_n 3, 1) := by decide +kernel
theorem dX7_link_37 : decode cX7_link 37 = .ok (.aload 4, 2) := by decide +kernel
theorem dX7_link_39 : decode cX7_link 39 = .ok (.if_acmp .eq 32, 3) := by decide +kernel
theorem dX7_link_42 : decode cX7_link 42 = .ok (.aload_n 3, 1) := by decide +kernel
theorem dX7_link_43 : decode cX7_link 43 = .ok (.invokevirtual 141, 3) := by decide +kernel
theorem dX7_link_46 : decode cX7_link 46 = .ok (.aload 4, 2) := by decide +kernel
theorem dX7_link_48 : decode cX7_link 48 = .ok (.invokevirtual 141, 3) := by decide +kernel
theorem dX7_link_51 : decode cX7_link 51 = .ok (.iadd, 1) := by decide +kernel
theorem dX7_link_52 : decode cX7_link 52 = .ok (.bipush 6, 2) := by decide +kernel
theorem dX7_link_54 : decode cX7_link 54 = .ok (.if_icmp .gt 7, 3) := by decide +kernel
theorem dX7_link_57 : decode cX7_link 57 = .ok (.iconst 1, 1) := by decide +kernel
theorem dX7_link_58 : decode cX7_link 58 = .ok (.goto 4, 3) := by decide +kernel
theorem dX7_link_61 : decode cX7_link 61 = .ok (.iconst 0, 1) := by decide +kernel
theorem dX7_link_62 : decode cX7_link 62 = .ok (.invokestatic 62, 3) := by decide +kernel
theorem dX7_link_65 : decode cX7_link 65 = .ok (.aload_n 3, 1) := by decide +kernel
theorem dX7_link_66 : decode cX7_link 66 = .ok (.aload 4, 2) := by decide +kernel
theorem dX7_link_68 : decode cX7_link 68 = .ok (.invokevirtual 144, 3) := by decide +kernel
theorem dX7_link_71 : decode cX7_link 71 = .ok (.aload_n 3, 1) := by decide +kernel
theorem dX7_link_72 : decode cX7_link 72 = .ok (.invokevirtual 141, 3) := by decide +kernel
theorem dX7_link_75 : decode cX7_link 75 = .ok (.ireturn, 1) := by decide +kernel
theorem dX7_cancel_0 : decode cX7_cancel 0 = .ok (.aload_n 0, 1) := by decide +kernel
theorem dX7_cancel_1 : decode cX7_cancel 1 = .ok (.iload_n 1, 1) := by decide +kernel
theorem dX7_cancel_2 : decode cX7_cancel 2 = .ok (.invokevirtual 110, 3) := by decide +kernel
theorem dX7_cancel_5 : decode cX7_cancel 5 = .ok (.astore_n 3, 1) := by decide +kernel
theorem dX7_cancel_6 : decode cX7_cancel 6 = .ok (.aload_n 3, 1) := by decide +kernel
theorem dX7_cancel_7 : decode cX7_cancel 7 = .ok (.iload_n 2, 1) := by decide +kernel
theorem dX7_cancel_8 : decode cX7_cancel 8 = .ok (.invokestatic 114, 3) := by decide +kernel
theorem dX7_cancel_11 : decode cX7_cancel 11 = .ok (.astore 4, 2) := by decide +kernel
theorem dX7_cancel_13 : decode cX7_cancel 13 = .ok (.aload_n 3, 1) := by decide +kernel
theorem dX7_cancel_14 : decode cX7_cancel 14 = .ok (.invokevirtual 118, 3) := by decide +kernel
theorem dX7_cancel_17 : decode cX7_cancel 17 = .ok (.invokestatic 62, 3) := by decide +kernel
theorem dX7_cancel_20 : decode cX7_cancel 20 = .ok (.aload 4, 2) := by decide +kernel
theorem dX7_cancel_22 : decode cX7_cancel 22 = .ok (.iconst 1, 1) := by decide +kernel
theorem dX7_cancel_23 : decode cX7_cancel 23 = .ok (.putfield 148, 3) := by decide +kernel
theorem dX7_cancel_26 : decode cX7_cancel 26 = .ok (.aload_n 3, 1) := by decide +kernel
theorem dX7_cancel_27 : decode cX7_cancel 27 = .ok (.getfield 151, 3) := by decide +kernel
theorem dX7_cancel_30 : decode cX7_cancel 30 = .ok (.ifCond .eq 10, 3) := by decide +kernel
theorem dX7_cancel_33 : decode cX7_cancel 33 = .ok (.aload_n 3, 1) := by decide +kernel
theorem dX7_cancel_34 : decode cX7_cancel 34 = .ok (.invokevirtual 154, 3) := by decide +kernel
theorem dX7_cancel_37 : decode cX7_cancel 37 = .ok (.ifCond .eq 8, 3) := by decide +kernel
theorem dX7_cancel_40 : decode cX7_cancel 40 = .ok (.aload_n 3, 1) := by decide +kernel
theorem dX7_cancel_41 : decode cX7_cancel 41 = .ok (.iconst 3, 1) := by decide +kernel
theorem dX7_cancel_42 : decode cX7_cancel 42 = .ok (.invokevirtual 157, 3) := by decide +kernel
theorem dX7_cancel_45 : decode cX7_cancel 45 = .ok (.aload_n 3, 1) := by decide +kernel
theorem dX7_cancel_46 : decode cX7_cancel 46 = .ok (.getfield 151, 3) := by decide +kernel
theorem dX7_cancel_49 : decode cX7_cancel 49 = .ok (.ireturn, 1) := by decide +kernel
theorem dX7_nextDay_0 : decode cX7_nextDay 0 = .ok (.aload_n 0, 1) := by decide +kernel
theorem dX7_nextDay_1 : decode cX7_nextDay 1 = .ok (.getfield 12, 3) := by decide +kernel
theorem dX7_nextDay_4 : decode cX7_nextDay 4 = .ok (.getfield 69, 3) := by decide +kernel
theorem dX7_nextDay_7 : decode cX7_nextDay 7 = .ok (.sipush 20000, 3) := by decide +kernel
theorem dX7_nextDay_10 : decode cX7_nextDay 10 = .ok (.if_icmp .ge 7, 3) := by decide +kernel
theorem dX7_nextDay_13 : decode cX7_nextDay 13 = .ok (.iconst 1, 1) := by decide +kernel
theorem dX7_nextDay_14 : decode cX7_nextDay 14 = .ok (.goto 4, 3) := by decide +kernel
theorem dX7_nextDay_17 : decode cX7_nextDay 17 = .ok (.iconst 0, 1) := by decide +kernel
theorem dX7_nextDay_18 : decode cX7_nextDay 18 = .ok (.invokestatic 62, 3) := by decide +kernel
theorem dX7_nextDay_21 : decode cX7_nextDay 21 = .ok (.aload_n 0, 1) := by decide +kernel
theorem dX7_nextDay_22 : decode cX7_nextDay 22 = .ok (.invokevirtual 160, 3) := by decide +kernel
theorem dX7_nextDay_25 : decode cX7_nextDay 25 = .ok (.ireturn, 1) := by decide +kernel
theorem dX7_goTo_0 : decode cX7_goTo 0 = .ok (.iload_n 1, 1) := by decide +kernel
theorem dX7_goTo_1 : decode cX7_goTo 1 = .ok (.aload_n 0, 1) := by decide +kernel
theorem dX7_goTo_2 : decode cX7_goTo 2 = .ok (.getfield 12, 3) := by decide +kernel
theorem dX7_goTo_5 : decode cX7_goTo 5 = .ok (.getfield 69, 3) := by decide +kernel
theorem dX7_goTo_8 : decode cX7_goTo 8 = .ok (.if_icmp .le 29, 3) := by decide +kernel
theorem dX7_goTo_11 : decode cX7_goTo 11 = .ok (.iload_n 1, 1) := by decide +kernel
theorem dX7_goTo_12 : decode cX7_goTo 12 = .ok (.sipush 20000, 3) := by decide +kernel
theorem dX7_goTo_15 : decode cX7_goTo 15 = .ok (.if_icmp .gt 22, 3) := by decide +kernel
theorem dX7_goTo_18 : decode cX7_goTo 18 = .ok (.iload_n 1, 1) := by decide +kernel
theorem dX7_goTo_19 : decode cX7_goTo 19 = .ok (.aload_n 0, 1) := by decide +kernel
theorem dX7_goTo_20 : decode cX7_goTo 20 = .ok (.getfield 12, 3) := by decide +kernel
theorem dX7_goTo_23 : decode cX7_goTo 23 = .ok (.getfield 69, 3) := by decide +kernel
theorem dX7_goTo_26 : decode cX7_goTo 26 = .ok (.isub, 1) := by decide +kernel
theorem dX7_goTo_27 : decode cX7_goTo 27 = .ok (.sipush 400, 3) := by decide +kernel
theorem dX7_goTo_30 : decode cX7_goTo 30 = .ok (.if_icmp .gt 7, 3) := by decide +kernel
theorem dX7_goTo_33 : decode cX7_goTo 33 = .ok (.iconst 1, 1) := by decide +kernel
theorem dX7_goTo_34 : decode cX7_goTo 34 = .ok (.goto 4, 3) := by decide +kernel
theorem dX7_goTo_37 : decode cX7_goTo 37 = .ok (.iconst 0, 1) := by decide +kernel
theorem dX7_goTo_38 : decode cX7_goTo 38 = .ok (.invokestatic 52, 3) := by decide +kernel
theorem dX7_goTo_41 : decode cX7_goTo 41 = .ok (.iconst 0, 1) := by decide +kernel
theorem dX7_goTo_42 : decode cX7_goTo 42 = .ok (.istore_n 2, 1) := by decide +kernel
theorem dX7_goTo_43 : decode cX7_goTo 43 = .ok (.iload_n 1, 1) := by decide +kernel
theorem dX7_goTo_44 : decode cX7_goTo 44 = .ok (.aload_n 0, 1) := by decide +kernel
theorem dX7_goTo_45 : decode cX7_goTo 45 = .ok (.getfield 12, 3) := by decide +kernel
theorem dX7_goTo_48 : decode cX7_goTo 48 = .ok (.getfield 69, 3) := by decide +kernel
theorem dX7_goTo_51 : decode cX7_goTo 51 = .ok (.isub, 1) := by decide +kernel
theorem dX7_goTo_52 : decode cX7_goTo 52 = .ok (.istore_n 3, 1) := by decide +kernel
theorem dX7_goTo_53 : decode cX7_goTo 53 = .ok (.iload_n 3, 1) := by decide +kernel
theorem dX7_goTo_54 : decode cX7_goTo 54 = .ok (.ifCond .le 16, 3) := by decide +kernel
theorem dX7_goTo_57 : decode cX7_goTo 57 = .ok (.iload_n 2, 1) := by decide +kernel
theorem dX7_goTo_58 : decode cX7_goTo 58 = .ok (.aload_n 0, 1) := by decide +kernel
theorem dX7_goTo_59 : decode cX7_goTo 59 = .ok (.invokevirtual 160, 3) := by decide +kernel
theorem dX7_goTo_62 : decode cX7_goTo 62 = .ok (.iadd, 1) := by decide +kernel
theorem dX7_goTo_63 : decode cX7_goTo 63 = .ok (.istore_n 2, 1) := by decide +kernel
theorem dX7_goTo_64 : decode cX7_goTo 64 = .ok (.iinc 3 (-1), 3) := by decide +kernel
theorem dX7_goTo_67 : decode cX7_goTo 67 = .ok (.goto (-14), 3) := by decide +kernel
theorem dX7_goTo_70 : decode cX7_goTo 70 = .ok (.iload_n 2, 1) := by decide +kernel
theorem dX7_goTo_71 : decode cX7_goTo 71 = .ok (.ireturn, 1) := by decide +kernel
theorem dX7_has_0 : decode cX7_has 0 = .ok (.iload_n 1, 1) := by decide +kernel
theorem dX7_has_1 : decode cX7_has 1 = .ok (.invokestatic 40, 3) := by decide +kernel
theorem dX7_has_4 : decode cX7_has 4 = .ok (.ifCond .eq 14, 3) := by decide +kernel
theorem dX7_has_7 : decode cX7_has 7 = .ok (.iload_n 2, 1) := by decide +kernel
theorem dX7_has_8 : decode cX7_has 8 = .ok (.invokestatic 44, 3) := by decide +kernel
theorem dX7_has_11 : decode cX7_has 11 = .ok (.ifCond .eq 7, 3) := by decide +kernel
theorem dX7_has_14 : decode cX7_has 14 = .ok (.iconst 1, 1) := by decide +kernel
theorem dX7_has_15 : decode cX7_has 15 = .ok (.goto 4, 3) := by decide +kernel
theorem dX7_has_18 : decode cX7_has 18 = .ok (.iconst 0, 1) := by decide +kernel
theorem dX7_has_19 : decode cX7_has 19 = .ok (.invokestatic 52, 3) := by decide +kernel
theorem dX7_has_22 : decode cX7_has 22 = .ok (.aload_n 0, 1) := by decide +kernel
theorem dX7_has_23 : decode cX7_has 23 = .ok (.getfield 19, 3) := by decide +kernel
theorem dX7_has_26 : decode cX7_has 26 = .ok (.iload_n 1, 1) := by decide +kernel
theorem dX7_has_27 : decode cX7_has 27 = .ok (.iload_n 2, 1) := by decide +kernel
theorem dX7_has_28 : decode cX7_has 28 = .ok (.invokevirtual 56, 3) := by decide +kernel
theorem dX7_has_31 : decode cX7_has 31 = .ok (.lreturn, 1) := by decide +kernel
theorem dX7_trade_0 : decode cX7_trade 0 = .ok (.aload_n 0, 1) := by decide +kernel
theorem dX7_trade_1 : decode cX7_trade 1 = .ok (.iload_n 1, 1) := by decide +kernel
theorem dX7_trade_2 : decode cX7_trade 2 = .ok (.invokevirtual 110, 3) := by decide +kernel
theorem dX7_trade_5 : decode cX7_trade 5 = .ok (.astore_n 3, 1) := by decide +kernel
theorem dX7_trade_6 : decode cX7_trade 6 = .ok (.iload_n 2, 1) := by decide +kernel
theorem dX7_trade_7 : decode cX7_trade 7 = .ok (.tableswitch 143 0 10 #[57, 62, 67, 72, 77, 85, 93, 101, 106, 111, 130], 57) := by decide +kernel
theorem dX7_trade_64 : decode cX7_trade 64 = .ok (.aload_n 3, 1) := by decide +kernel
theorem dX7_trade_65 : decode cX7_trade 65 = .ok (.getfield 151, 3) := by decide +kernel
theorem dX7_trade_68 : decode cX7_trade 68 = .ok (.ireturn, 1) := by decide +kernel
theorem dX7_trade_69 : decode cX7_trade 69 = .ok (.aload_n 3, 1) := by decide +kernel
theorem dX7_trade_70 : decode cX7_trade 70 = .ok (.getfield 163, 3) := by decide +kernel
theorem dX7_trade_73 : decode cX7_trade 73 = .ok (.ireturn, 1) := by decide +kernel
theorem dX7_trade_74 : decode cX7_trade 74 = .ok (.aload_n 3, 1) := by decide +kernel
theorem dX7_trade_75 : decode cX7_trade 75 = .ok (.getfield 166, 3) := by decide +kernel
theorem dX7_trade_78 : decode cX7_trade 78 = .ok (.ireturn, 1) := by decide +kernel
theorem dX7_trade_79 : decode cX7_trade 79 = .ok (.aload_n 3, 1) := by decide +kernel
theorem dX7_trade_80 : decode cX7_trade 80 = .ok (.getfield 169, 3) := by decide +kernel
theorem dX7_trade_83 : decode cX7_trade 83 = .ok (.ireturn, 1) := by decide +kernel
theorem dX7_trade_84 : decode cX7_trade 84 = .ok (.aload_n 3, 1) := by decide +kernel
theorem dX7_trade_85 : decode cX7_trade 85 = .ok (.getfield 172, 3) := by decide +kernel
theorem dX7_trade_88 : decode cX7_trade 88 = .ok (.getfield 176, 3) := by decide +kernel
theorem dX7_trade_91 : decode cX7_trade 91 = .ok (.ireturn, 1) := by decide +kernel
theorem dX7_trade_92 : decode cX7_trade 92 = .ok (.aload_n 3, 1) := by decide +kernel
theorem dX7_trade_93 : decode cX7_trade 93 = .ok (.getfield 172, 3) := by decide +kernel
theorem dX7_trade_96 : decode cX7_trade 96 = .ok (.getfield 179, 3) := by decide +kernel
theorem dX7_trade_99 : decode cX7_trade 99 = .ok (.ireturn, 1) := by decide +kernel
theorem dX7_trade_100 : decode cX7_trade 100 = .ok (.aload_n 3, 1) := by decide +kernel
theorem dX7_trade_101 : decode cX7_trade 101 = .ok (.getfield 172, 3) := by decide +kernel
theorem dX7_trade_104 : decode cX7_trade 104 = .ok (.getfield 182, 3) := by decide +kernel
theorem dX7_trade_107 : decode cX7_trade 107 = .ok (.ireturn, 1) := by decide +kernel
theorem dX7_trade_108 : decode cX7_trade 108 = .ok (.aload_n 3, 1) := by decide +kernel
theorem dX7_trade_109 : decode cX7_trade 109 = .ok (.getfield 185, 3) := by decide +kernel
theorem dX7_trade_112 : decode cX7_trade 112 = .ok (.ireturn, 1) := by decide +kernel
theorem dX7_trade_113 : decode cX7_trade 113 = .ok (.aload_n 3, 1) := by decide +kernel
theorem dX7_trade_114 : decode cX7_trade 114 = .ok (.getfield 128, 3) := by decide +kernel
theorem dX7_trade_117 : decode cX7_trade 117 = .ok (.ireturn, 1) := by decide +kernel
theorem dX7_trade_118 : decode cX7_trade 118 = .ok (.aload_n 3, 1) := by decide +kernel
theorem dX7_trade_119 : decode cX7_trade 119 = .ok (.getfield 134, 3) := by decide +kernel
theorem dX7_trade_122 : decode cX7_trade 122 = .ok (.ifnonnull 7, 3) := by decide +kernel
theorem dX7_trade_125 : decode cX7_trade 125 = .ok (.iconst 0, 1) := by decide +kernel
theorem dX7_trade_126 : decode cX7_trade 126 = .ok (.goto 10, 3) := by decide +kernel
theorem dX7_trade_129 : decode cX7_trade 129 = .ok (.aload_n 3, 1) := by decide +kernel
theorem dX7_trade_130 : decode cX7_trade 130 = .ok (.getfield 134, 3) := by decide +kernel
theorem dX7_trade_133 : decode cX7_trade 133 = .ok (.invokevirtual 141, 3) := by decide +kernel
theorem dX7_trade_136 : decode cX7_trade 136 = .ok (.ireturn, 1) := by decide +kernel
theorem dX7_trade_137 : decode cX7_trade 137 = .ok (.aload_n 3, 1) := by decide +kernel
theorem dX7_trade_138 : decode cX7_trade 138 = .ok (.getfield 131, 3) := by decide +kernel
theorem dX7_trade_141 : decode cX7_trade 141 = .ok (.ifCond .eq 7, 3) := by decide +kernel
theorem dX7_trade_144 : decode cX7_trade 144 = .ok (.iconst 1, 1) := by decide +kernel
theorem dX7_trade_145 : decode cX7_trade 145 = .ok (.goto 4, 3) := by decide +kernel
theorem dX7_trade_148 : decode cX7_trade 148 = .ok (.iconst 0, 1) := by decide +kernel
theorem dX7_trade_149 : decode cX7_trade 149 = .ok (.ireturn, 1) := by decide +kernel
theorem dX7_trade_150 : decode cX7_trade 150 = .ok (.new 188, 3) := by decide +kernel
theorem dX7_trade_153 : decode cX7_trade 153 = .ok (.dup, 1) := by decide +kernel
theorem dX7_trade_154 : decode cX7_trade 154 = .ok (.invokespecial 190, 3) := by decide +kernel
theorem dX7_trade_157 : decode cX7_trade 157 = .ok (.athrow, 1) := by decide +kernel
theorem dX7_settled_0 : decode cX7_settled 0 = .ok (.aload_n 0, 1) := by decide +kernel
theorem dX7_settled_1 : decode cX7_settled 1 = .ok (.getfield 26, 3) := by decide +kernel
theorem dX7_settled_4 : decode cX7_settled 4 = .ok (.iload_n 1, 1) := by decide +kernel
theorem dX7_settled_5 : decode cX7_settled 5 = .ok (.iload_n 2, 1) := by decide +kernel
theorem dX7_settled_6 : decode cX7_settled 6 = .ok (.invokevirtual 191, 3) := by decide +kernel
theorem dX7_settled_9 : decode cX7_settled 9 = .ok (.ireturn, 1) := by decide +kernel
theorem dX7_business_0 : decode cX7_business 0 = .ok (.iload_n 1, 1) := by decide +kernel
theorem dX7_business_1 : decode cX7_business 1 = .ok (.iconst 0, 1) := by decide +kernel
theorem dX7_business_2 : decode cX7_business 2 = .ok (.sipush 20000, 3) := by decide +kernel
theorem dX7_business_5 : decode cX7_business 5 = .ok (.invokestatic 48, 3) := by decide +kernel
theorem dX7_business_8 : decode cX7_business 8 = .ok (.ifCond .eq 18, 3) := by decide +kernel
theorem dX7_business_11 : decode cX7_business 11 = .ok (.iload_n 2, 1) := by decide +kernel
theorem dX7_business_12 : decode cX7_business 12 = .ok (.iconst 0, 1) := by decide +kernel
theorem dX7_business_13 : decode cX7_business 13 = .ok (.sipush 1000, 3) := by decide +kernel
theorem dX7_business_16 : decode cX7_business 16 = .ok (.invokestatic 48, 3) := by decide +kernel
theorem dX7_business_19 : decode cX7_business 19 = .ok (.ifCond .eq 7, 3) := by decide +kernel
theorem dX7_business_22 : decode cX7_business 22 = .ok (.iconst 1, 1) := by decide +kernel
theorem dX7_business_23 : decode cX7_business 23 = .ok (.goto 4, 3) := by decide +kernel
theorem dX7_business_26 : decode cX7_business 26 = .ok (.iconst 0, 1) := by decide +kernel
theorem dX7_business_27 : decode cX7_business 27 = .ok (.invokestatic 52, 3) := by decide +kernel
theorem dX7_business_30 : decode cX7_business 30 = .ok (.aload_n 0, 1) := by decide +kernel
theorem dX7_business_31 : decode cX7_business 31 = .ok (.getfield 12, 3) := by decide +kernel
theorem dX7_business_34 : decode cX7_business 34 = .ok (.iload_n 1, 1) := by decide +kernel
theorem dX7_business_35 : decode cX7_business 35 = .ok (.iload_n 2, 1) := by decide +kernel
theorem dX7_business_36 : decode cX7_business 36 = .ok (.invokevirtual 195, 3) := by decide +kernel
theorem dX7_business_39 : decode cX7_business 39 = .ok (.ireturn, 1) := by decide +kernel
theorem dX7_date_0 : decode cX7_date 0 = .ok (.iload_n 1, 1) := by decide +kernel
theorem dX7_date_1 : decode cX7_date 1 = .ok (.iconst 0, 1) := by decide +kernel
theorem dX7_date_2 : decode cX7_date 2 = .ok (.iconst 4, 1) := by decide +kernel
theorem dX7_date_3 : decode cX7_date 3 = .ok (.invokestatic 48, 3) := by decide +kernel
theorem dX7_date_6 : decode cX7_date 6 = .ok (.invokestatic 52, 3) := by decide +kernel
theorem dX7_date_9 : decode cX7_date 9 = .ok (.aload_n 0, 1) := by decide +kernel
theorem dX7_date_10 : decode cX7_date 10 = .ok (.getfield 12, 3) := by decide +kernel
theorem dX7_date_13 : decode cX7_date 13 = .ok (.iload_n 1, 1) := by decide +kernel
theorem dX7_date_14 : decode cX7_date 14 = .ok (.invokevirtual 198, 3) := by decide +kernel
theorem dX7_date_17 : decode cX7_date 17 = .ok (.ireturn, 1) := by decide +kernel
theorem dX7_count_0 : decode cX7_count 0 = .ok (.iload_n 1, 1) := by decide +kernel
theorem dX7_count_1 : decode cX7_count 1 = .ok (.iconst 0, 1) := by decide +kernel
theorem dX7_count_2 : decode cX7_count 2 = .ok (.iconst 4, 1) := by decide +kernel
theorem dX7_count_3 : decode cX7_count 3 = .ok (.invokestatic 48, 3) := by decide +kernel
theorem dX7_count_6 : decode cX7_count 6 = .ok (.invokestatic 52, 3) := by decide +kernel
theorem dX7_count_9 : decode cX7_count 9 = .ok (.iconst 0, 1) := by decide +kernel
theorem dX7_count_10 : decode cX7_count 10 = .ok (.istore_n 2, 1) := by decide +kernel
theorem dX7_count_11 : decode cX7_count 11 = .ok (.iconst 0, 1) := by decide +kernel
