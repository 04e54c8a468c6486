theorem dX7_count_12 : decode cX7_count 12 = .ok (.istore_n 3, 1) := by decide +kernel
theorem dX7_count_13 : decode cX7_count 13 = .ok (.iload_n 3, 1) := by decide +kernel
theorem dX7_count_14 : decode cX7_count 14 = .ok (.aload_n 0, 1) := by decide +kernel
theorem dX7_count_15 : decode cX7_count 15 = .ok (.getfield 33, 3) := by decide +kernel
theorem dX7_count_18 : decode cX7_count 18 = .ok (.invokevirtual 81, 3) := by decide +kernel
theorem dX7_count_21 : decode cX7_count 21 = .ok (.if_icmp .ge 30, 3) := by decide +kernel
theorem dX7_count_24 : decode cX7_count 24 = .ok (.aload_n 0, 1) := by decide +kernel
theorem dX7_count_25 : decode cX7_count 25 = .ok (.getfield 33, 3) := by decide +kernel
theorem dX7_count_28 : decode cX7_count 28 = .ok (.iload_n 3, 1) := by decide +kernel
theorem dX7_count_29 : decode cX7_count 29 = .ok (.invokevirtual 202, 3) := by decide +kernel
theorem dX7_count_32 : decode cX7_count 32 = .ok (.checkcast 99, 3) := by decide +kernel
theorem dX7_count_35 : decode cX7_count 35 = .ok (.getfield 151, 3) := by decide +kernel
theorem dX7_count_38 : decode cX7_count 38 = .ok (.iload_n 1, 1) := by decide +kernel
theorem dX7_count_39 : decode cX7_count 39 = .ok (.if_icmp .ne 6, 3) := by decide +kernel
theorem dX7_count_42 : decode cX7_count 42 = .ok (.iinc 2 1, 3) := by decide +kernel
theorem dX7_count_45 : decode cX7_count 45 = .ok (.iinc 3 1, 3) := by decide +kernel
theorem dX7_count_48 : decode cX7_count 48 = .ok (.goto (-35), 3) := by decide +kernel
theorem dX7_count_51 : decode cX7_count 51 = .ok (.iload_n 2, 1) := by decide +kernel
theorem dX7_count_52 : decode cX7_count 52 = .ok (.ireturn, 1) := by decide +kernel
theorem dX7_astray_0 : decode cX7_astray 0 = .ok (.iconst 0, 1) := by decide +kernel
theorem dX7_astray_1 : decode cX7_astray 1 = .ok (.istore_n 1, 1) := by decide +kernel
theorem dX7_astray_2 : decode cX7_astray 2 = .ok (.iconst (-1), 1) := by decide +kernel
theorem dX7_astray_3 : decode cX7_astray 3 = .ok (.istore_n 2, 1) := by decide +kernel
theorem dX7_astray_4 : decode cX7_astray 4 = .ok (.iload_n 2, 1) := by decide +kernel
theorem dX7_astray_5 : decode cX7_astray 5 = .ok (.bipush 8, 2) := by decide +kernel
theorem dX7_astray_7 : decode cX7_astray 7 = .ok (.if_icmp .ge 23, 3) := by decide +kernel
theorem dX7_astray_10 : decode cX7_astray 10 = .ok (.aload_n 0, 1) := by decide +kernel
theorem dX7_astray_11 : decode cX7_astray 11 = .ok (.getfield 19, 3) := by decide +kernel
theorem dX7_astray_14 : decode cX7_astray 14 = .ok (.iload_n 2, 1) := by decide +kernel
theorem dX7_astray_15 : decode cX7_astray 15 = .ok (.invokevirtual 206, 3) := by decide +kernel
theorem dX7_astray_18 : decode cX7_astray 18 = .ok (.ifCond .eq 6, 3) := by decide +kernel
theorem dX7_astray_21 : decode cX7_astray 21 = .ok (.iinc 1 1, 3) := by decide +kernel
theorem dX7_astray_24 : decode cX7_astray 24 = .ok (.iinc 2 1, 3) := by decide +kernel
theorem dX7_astray_27 : decode cX7_astray 27 = .ok (.goto (-23), 3) := by decide +kernel
theorem dX7_astray_30 : decode cX7_astray 30 = .ok (.iload_n 1, 1) := by decide +kernel
theorem dX7_astray_31 : decode cX7_astray 31 = .ok (.ireturn, 1) := by decide +kernel
theorem dX7_checkArgument_0 : decode cX7_checkArgument 0 = .ok (.iload_n 0, 1) := by decide +kernel
theorem dX7_checkArgument_1 : decode cX7_checkArgument 1 = .ok (.ifCond .ne 11, 3) := by decide +kernel
theorem dX7_checkArgument_4 : decode cX7_checkArgument 4 = .ok (.new 188, 3) := by decide +kernel
theorem dX7_checkArgument_7 : decode cX7_checkArgument 7 = .ok (.dup, 1) := by decide +kernel
theorem dX7_checkArgument_8 : decode cX7_checkArgument 8 = .ok (.invokespecial 190, 3) := by decide +kernel
theorem dX7_checkArgument_11 : decode cX7_checkArgument 11 = .ok (.athrow, 1) := by decide +kernel
theorem dX7_checkArgument_12 : decode cX7_checkArgument 12 = .ok (.return_, 1) := by decide +kernel
theorem dX7_checkState_0 : decode cX7_checkState 0 = .ok (.iload_n 0, 1) := by decide +kernel
theorem dX7_checkState_1 : decode cX7_checkState 1 = .ok (.ifCond .ne 11, 3) := by decide +kernel
theorem dX7_checkState_4 : decode cX7_checkState 4 = .ok (.new 138, 3) := by decide +kernel
theorem dX7_checkState_7 : decode cX7_checkState 7 = .ok (.dup, 1) := by decide +kernel
theorem dX7_checkState_8 : decode cX7_checkState 8 = .ok (.invokespecial 140, 3) := by decide +kernel
theorem dX7_checkState_11 : decode cX7_checkState 11 = .ok (.athrow, 1) := by decide +kernel
theorem dX7_checkState_12 : decode cX7_checkState 12 = .ok (.return_, 1) := by decide +kernel
theorem dX7_isWithin_0 : decode cX7_isWithin 0 = .ok (.iload_n 0, 1) := by decide +kernel
theorem dX7_isWithin_1 : decode cX7_isWithin 1 = .ok (.iload_n 1, 1) := by decide +kernel
theorem dX7_isWithin_2 : decode cX7_isWithin 2 = .ok (.if_icmp .lt 12, 3) := by decide +kernel
theorem dX7_isWithin_5 : decode cX7_isWithin 5 = .ok (.iload_n 0, 1) := by decide +kernel
theorem dX7_isWithin_6 : decode cX7_isWithin 6 = .ok (.iload_n 2, 1) := by decide +kernel
theorem dX7_isWithin_7 : decode cX7_isWithin 7 = .ok (.if_icmp .gt 7, 3) := by decide +kernel
theorem dX7_isWithin_10 : decode cX7_isWithin 10 = .ok (.iconst 1, 1) := by decide +kernel
theorem dX7_isWithin_11 : decode cX7_isWithin 11 = .ok (.goto 4, 3) := by decide +kernel
theorem dX7_isWithin_14 : decode cX7_isWithin 14 = .ok (.iconst 0, 1) := by decide +kernel
theorem dX7_isWithin_15 : decode cX7_isWithin 15 = .ok (.ireturn, 1) := by decide +kernel
theorem dX7_isParty_0 : decode cX7_isParty 0 = .ok (.iload_n 0, 1) := by decide +kernel
theorem dX7_isParty_1 : decode cX7_isParty 1 = .ok (.iconst 0, 1) := by decide +kernel
theorem dX7_isParty_2 : decode cX7_isParty 2 = .ok (.bipush 15, 2) := by decide +kernel
theorem dX7_isParty_4 : decode cX7_isParty 4 = .ok (.invokestatic 48, 3) := by decide +kernel
theorem dX7_isParty_7 : decode cX7_isParty 7 = .ok (.ireturn, 1) := by decide +kernel
theorem dX7_isAsset_0 : decode cX7_isAsset 0 = .ok (.iload_n 0, 1) := by decide +kernel
theorem dX7_isAsset_1 : decode cX7_isAsset 1 = .ok (.iconst (-1), 1) := by decide +kernel
theorem dX7_isAsset_2 : decode cX7_isAsset 2 = .ok (.bipush 7, 2) := by decide +kernel
theorem dX7_isAsset_4 : decode cX7_isAsset 4 = .ok (.invokestatic 48, 3) := by decide +kernel
theorem dX7_isAsset_7 : decode cX7_isAsset 7 = .ok (.ireturn, 1) := by decide +kernel
theorem dX7_find_0 : decode cX7_find 0 = .ok (.iload_n 1, 1) := by decide +kernel
theorem dX7_find_1 : decode cX7_find 1 = .ok (.ifCond .lt 14, 3) := by decide +kernel
theorem dX7_find_4 : decode cX7_find 4 = .ok (.iload_n 1, 1) := by decide +kernel
theorem dX7_find_5 : decode cX7_find 5 = .ok (.aload_n 0, 1) := by decide +kernel
theorem dX7_find_6 : decode cX7_find 6 = .ok (.getfield 33, 3) := by decide +kernel
theorem dX7_find_9 : decode cX7_find 9 = .ok (.invokevirtual 81, 3) := by decide +kernel
theorem dX7_find_12 : decode cX7_find 12 = .ok (.if_icmp .lt 11, 3) := by decide +kernel
theorem dX7_find_15 : decode cX7_find 15 = .ok (.new 188, 3) := by decide +kernel
theorem dX7_find_18 : decode cX7_find 18 = .ok (.dup, 1) := by decide +kernel
theorem dX7_find_19 : decode cX7_find 19 = .ok (.invokespecial 190, 3) := by decide +kernel
theorem dX7_find_22 : decode cX7_find 22 = .ok (.athrow, 1) := by decide +kernel
theorem dX7_find_23 : decode cX7_find 23 = .ok (.aload_n 0, 1) := by decide +kernel
theorem dX7_find_24 : decode cX7_find 24 = .ok (.getfield 33, 3) := by decide +kernel
theorem dX7_find_27 : decode cX7_find 27 = .ok (.iload_n 1, 1) := by decide +kernel
theorem dX7_find_28 : decode cX7_find 28 = .ok (.invokevirtual 202, 3) := by decide +kernel
theorem dX7_find_31 : decode cX7_find 31 = .ok (.checkcast 99, 3) := by decide +kernel
theorem dX7_find_34 : decode cX7_find 34 = .ok (.areturn, 1) := by decide +kernel
theorem dX7_findSide_0 : decode cX7_findSide 0 = .ok (.iload_n 1, 1) := by decide +kernel
theorem dX7_findSide_1 : decode cX7_findSide 1 = .ok (.aload_n 0, 1) := by decide +kernel
theorem dX7_findSide_2 : decode cX7_findSide 2 = .ok (.getfield 172, 3) := by decide +kernel
theorem dX7_findSide_5 : decode cX7_findSide 5 = .ok (.getfield 176, 3) := by decide +kernel
theorem dX7_findSide_8 : decode cX7_findSide 8 = .ok (.if_icmp .ne 8, 3) := by decide +kernel
theorem dX7_findSide_11 : decode cX7_findSide 11 = .ok (.aload_n 0, 1) := by decide +kernel
theorem dX7_findSide_12 : decode cX7_findSide 12 = .ok (.getfield 209, 3) := by decide +kernel
theorem dX7_findSide_15 : decode cX7_findSide 15 = .ok (.areturn, 1) := by decide +kernel
theorem dX7_findSide_16 : decode cX7_findSide 16 = .ok (.iload_n 1, 1) := by decide +kernel
theorem dX7_findSide_17 : decode cX7_findSide 17 = .ok (.aload_n 0, 1) := by decide +kernel
theorem dX7_findSide_18 : decode cX7_findSide 18 = .ok (.getfield 172, 3) := by decide +kernel
theorem dX7_findSide_21 : decode cX7_findSide 21 = .ok (.getfield 179, 3) := by decide +kernel
theorem dX7_findSide_24 : decode cX7_findSide 24 = .ok (.if_icmp .ne 8, 3) := by decide +kernel
theorem dX7_findSide_27 : decode cX7_findSide 27 = .ok (.aload_n 0, 1) := by decide +kernel
theorem dX7_findSide_28 : decode cX7_findSide 28 = .ok (.getfield 213, 3) := by decide +kernel
theorem dX7_findSide_31 : decode cX7_findSide 31 = .ok (.areturn, 1) := by decide +kernel
theorem dX7_findSide_32 : decode cX7_findSide 32 = .ok (.new 188, 3) := by decide +kernel
theorem dX7_findSide_35 : decode cX7_findSide 35 = .ok (.dup, 1) := by decide +kernel
theorem dX7_findSide_36 : decode cX7_findSide 36 = .ok (.invokespecial 190, 3) := by decide +kernel
theorem dX7_findSide_39 : decode cX7_findSide 39 = .ok (.athrow, 1) := by decide +kernel
theorem dX7_firstUnmatched_0 : decode cX7_firstUnmatched 0 = .ok (.iconst 0, 1) := by decide +kernel
theorem dX7_firstUnmatched_1 : decode cX7_firstUnmatched 1 = .ok (.istore_n 3, 1) := by decide +kernel
theorem dX7_firstUnmatched_2 : decode cX7_firstUnmatched 2 = .ok (.iload_n 3, 1) := by decide +kernel
theorem dX7_firstUnmatched_3 : decode cX7_firstUnmatched 3 = .ok (.aload_n 0, 1) := by decide +kernel
theorem dX7_firstUnmatched_4 : decode cX7_firstUnmatched 4 = .ok (.getfield 33, 3) := by decide +kernel
theorem dX7_firstUnmatched_7 : decode cX7_firstUnmatched 7 = .ok (.invokevirtual 81, 3) := by decide +kernel
theorem dX7_firstUnmatched_10 : decode cX7_firstUnmatched 10 = .ok (.if_icmp .ge 54, 3) := by decide +kernel
theorem dX7_firstUnmatched_13 : decode cX7_firstUnmatched 13 = .ok (.aload_n 0, 1) := by decide +kernel
theorem dX7_firstUnmatched_14 : decode cX7_firstUnmatched 14 = .ok (.getfield 33, 3) := by decide +kernel
theorem dX7_firstUnmatched_17 : decode cX7_firstUnmatched 17 = .ok (.iload_n 3, 1) := by decide +kernel
theorem dX7_firstUnmatched_18 : decode cX7_firstUnmatched 18 = .ok (.invokevirtual 202, 3) := by decide +kernel
theorem dX7_firstUnmatched_21 : decode cX7_firstUnmatched 21 = .ok (.checkcast 99, 3) := by decide +kernel
theorem dX7_firstUnmatched_24 : decode cX7_firstUnmatched 24 = .ok (.astore 4, 2) := by decide +kernel
theorem dX7_firstUnmatched_26 : decode cX7_firstUnmatched 26 = .ok (.aload 4, 2) := by decide +kernel
theorem dX7_firstUnmatched_28 : decode cX7_firstUnmatched 28 = .ok (.getfield 151, 3) := by decide +kernel
theorem dX7_firstUnmatched_31 : decode cX7_firstUnmatched 31 = .ok (.ifCond .ne 27, 3) := by decide +kernel
theorem dX7_firstUnmatched_34 : decode cX7_firstUnmatched 34 = .ok (.aload 4, 2) := by decide +kernel
theorem dX7_firstUnmatched_36 : decode cX7_firstUnmatched 36 = .ok (.getfield 216, 3) := by decide +kernel
theorem dX7_firstUnmatched_39 : decode cX7_firstUnmatched 39 = .ok (.iload_n 2, 1) := by decide +kernel
theorem dX7_firstUnmatched_40 : decode cX7_firstUnmatched 40 = .ok (.if_icmp .ne 18, 3) := by decide +kernel
theorem dX7_firstUnmatched_43 : decode cX7_firstUnmatched 43 = .ok (.aload 4, 2) := by decide +kernel
theorem dX7_firstUnmatched_45 : decode cX7_firstUnmatched 45 = .ok (.getfield 172, 3) := by decide +kernel
theorem dX7_firstUnmatched_48 : decode cX7_firstUnmatched 48 = .ok (.aload_n 1, 1) := by decide +kernel
theorem dX7_firstUnmatched_49 : decode cX7_firstUnmatched 49 = .ok (.invokevirtual 219, 3) := by decide +kernel
theorem dX7_firstUnmatched_52 : decode cX7_firstUnmatched 52 = .ok (.ifCond .eq 6, 3) := by decide +kernel
theorem dX7_firstUnmatched_55 : decode cX7_firstUnmatched 55 = .ok (.aload 4, 2) := by decide +kernel
theorem dX7_firstUnmatched_57 : decode cX7_firstUnmatched 57 = .ok (.areturn, 1) := by decide +kernel
theorem dX7_firstUnmatched_58 : decode cX7_firstUnmatched 58 = .ok (.iinc 3 1, 3) := by decide +kernel
theorem dX7_firstUnmatched_61 : decode cX7_firstUnmatched 61 = .ok (.goto (-59), 3) := by decide +kernel
theorem dX7_firstUnmatched_64 : decode cX7_firstUnmatched 64 = .ok (.aconst_null, 1) := by decide +kernel
theorem dX7_firstUnmatched_65 : decode cX7_firstUnmatched 65 = .ok (.areturn, 1) := by decide +kernel
theorem dX7_match_0 : decode cX7_match 0 = .ok (.aload_n 1, 1) := by decide +kernel
theorem dX7_match_1 : decode cX7_match 1 = .ok (.iconst 1, 1) := by decide +kernel
theorem dX7_match_2 : decode cX7_match 2 = .ok (.putfield 151, 3) := by decide +kernel
theorem dX7_match_5 : decode cX7_match 5 = .ok (.aload_n 1, 1) := by decide +kernel
theorem dX7_match_6 : decode cX7_match 6 = .ok (.aload_n 0, 1) := by decide +kernel
theorem dX7_match_7 : decode cX7_match 7 = .ok (.getfield 12, 3) := by decide +kernel
theorem dX7_match_10 : decode cX7_match 10 = .ok (.aload_n 1, 1) := by decide +kernel
theorem dX7_match_11 : decode cX7_match 11 = .ok (.getfield 172, 3) := by decide +kernel
theorem dX7_match_14 : decode cX7_match 14 = .ok (.getfield 223, 3) := by decide +kernel
theorem dX7_match_17 : decode cX7_match 17 = .ok (.aload_n 1, 1) := by decide +kernel
theorem dX7_match_18 : decode cX7_match 18 = .ok (.getfield 172, 3) := by decide +kernel
theorem dX7_match_21 : decode cX7_match 21 = .ok (.getfield 226, 3) := by decide +kernel
theorem dX7_match_24 : decode cX7_match 24 = .ok (.invokevirtual 195, 3) := by decide +kernel
theorem dX7_match_27 : decode cX7_match 27 = .ok (.putfield 163, 3) := by decide +kernel
theorem dX7_match_30 : decode cX7_match 30 = .ok (.new 142, 3) := by decide +kernel
theorem dX7_match_33 : decode cX7_match 33 = .ok (.dup, 1) := by decide +kernel
theorem dX7_match_34 : decode cX7_match 34 = .ok (.invokespecial 229, 3) := by decide +kernel
theorem dX7_match_37 : decode cX7_match 37 = .ok (.aload_n 1, 1) := by decide +kernel
theorem dX7_match_38 : decode cX7_match 38 = .ok (.invokevirtual 230, 3) := by decide +kernel
theorem dX7_match_41 : decode cX7_match 41 = .ok (.return_, 1) := by decide +kernel
theorem dX7_passToNextDay_0 : decode cX7_passToNextDay 0 = .ok (.aload_n 0, 1) := by decide +kernel
theorem dX7_passToNextDay_1 : decode cX7_passToNextDay 1 = .ok (.getfield 12, 3) := by decide +kernel
theorem dX7_passToNextDay_4 : decode cX7_passToNextDay 4 = .ok (.dup, 1) := by decide +kernel
theorem dX7_passToNextDay_5 : decode cX7_passToNextDay 5 = .ok (.getfield 69, 3) := by decide +kernel
theorem dX7_passToNextDay_8 : decode cX7_passToNextDay 8 = .ok (.iconst 1, 1) := by decide +kernel
theorem dX7_passToNextDay_9 : decode cX7_passToNextDay 9 = .ok (.iadd, 1) := by decide +kernel
theorem dX7_passToNextDay_10 : decode cX7_passToNextDay 10 = .ok (.putfield 69, 3) := by decide +kernel
theorem dX7_passToNextDay_13 : decode cX7_passToNextDay 13 = .ok (.aload_n 0, 1) := by decide +kernel
theorem dX7_passToNextDay_14 : decode cX7_passToNextDay 14 = .ok (.getfield 12, 3) := by decide +kernel
theorem dX7_passToNextDay_17 : decode cX7_passToNextDay 17 = .ok (.aload_n 0, 1) := by decide +kernel
theorem dX7_passToNextDay_18 : decode cX7_passToNextDay 18 = .ok (.getfield 12, 3) := by decide +kernel
theorem dX7_passToNextDay_21 : decode cX7_passToNextDay 21 = .ok (.getfield 69, 3) := by decide +kernel
theorem dX7_passToNextDay_24 : decode cX7_passToNextDay 24 = .ok (.invokevirtual 233, 3) := by decide +kernel
theorem dX7_passToNextDay_27 : decode cX7_passToNextDay 27 = .ok (.ifCond .eq 10, 3) := by decide +kernel
theorem dX7_passToNextDay_30 : decode cX7_passToNextDay 30 = .ok (.aload_n 0, 1) := by decide +kernel
theorem dX7_passToNextDay_31 : decode cX7_passToNextDay 31 = .ok (.invokevirtual 236, 3) := by decide +kernel
theorem dX7_passToNextDay_34 : decode cX7_passToNextDay 34 = .ok (.goto 4, 3) := by decide +kernel
theorem dX7_passToNextDay_37 : decode cX7_passToNextDay 37 = .ok (.iconst 0, 1) := by decide +kernel
theorem dX7_passToNextDay_38 : decode cX7_passToNextDay 38 = .ok (.ireturn, 1) := by decide +kernel
theorem dX7_runCycle_0 : decode cX7_runCycle 0 = .ok (.aload_n 0, 1) := by decide +kernel
theorem dX7_runCycle_1 : decode cX7_runCycle 1 = .ok (.invokevirtual 239, 3) := by decide +kernel
theorem dX7_runCycle_4 : decode cX7_runCycle 4 = .ok (.iconst 0, 1) := by decide +kernel
theorem dX7_runCycle_5 : decode cX7_runCycle 5 = .ok (.istore_n 1, 1) := by decide +kernel
theorem dX7_runCycle_6 : decode cX7_runCycle 6 = .ok (.iconst 0, 1) := by decide +kernel
theorem dX7_runCycle_7 : decode cX7_runCycle 7 = .ok (.istore_n 2, 1) := by decide +kernel
theorem dX7_runCycle_8 : decode cX7_runCycle 8 = .ok (.iload_n 2, 1) := by decide +kernel
theorem dX7_runCycle_9 : decode cX7_runCycle 9 = .ok (.sipush 150, 3) := by decide +kernel
theorem dX7_runCycle_12 : decode cX7_runCycle 12 = .ok (.if_icmp .gt 25, 3) := by decide +kernel
theorem dX7_runCycle_15 : decode cX7_runCycle 15 = .ok (.aload_n 0, 1) := by decide +kernel
theorem dX7_runCycle_16 : decode cX7_runCycle 16 = .ok (.invokevirtual 242, 3) := by decide +kernel
theorem dX7_runCycle_19 : decode cX7_runCycle 19 = .ok (.istore_n 3, 1) := by decide +kernel
theorem dX7_runCycle_20 : decode cX7_runCycle 20 = .ok (.iload_n 3, 1) := by decide +kernel
theorem dX7_runCycle_21 : decode cX7_runCycle 21 = .ok (.ifCond .ne 6, 3) := by decide +kernel
theorem dX7_runCycle_24 : decode cX7_runCycle 24 = .ok (.goto 13, 3) := by decide +kernel
theorem dX7_runCycle_27 : decode cX7_runCycle 27 = .ok (.iload_n 1, 1) := by decide +kernel
theorem dX7_runCycle_28 : decode cX7_runCycle 28 = .ok (.iload_n 3, 1) := by decide +kernel
theorem dX7_runCycle_29 : decode cX7_runCycle 29 = .ok (.iadd, 1) := by decide +kernel
theorem dX7_runCycle_30 : decode cX7_runCycle 30 = .ok (.istore_n 1, 1) := by decide +kernel
theorem dX7_runCycle_31 : decode cX7_runCycle 31 = .ok (.iinc 2 1, 3) := by decide +kernel
theorem dX7_runCycle_34 : decode cX7_runCycle 34 = .ok (.goto (-26), 3) := by decide +kernel
theorem dX7_runCycle_37 : decode cX7_runCycle 37 = .ok (.aload_n 0, 1) := by decide +kernel
theorem dX7_runCycle_38 : decode cX7_runCycle 38 = .ok (.invokevirtual 245, 3) := by decide +kernel
theorem dX7_runCycle_41 : decode cX7_runCycle 41 = .ok (.aload_n 0, 1) := by decide +kernel
theorem dX7_runCycle_42 : decode cX7_runCycle 42 = .ok (.invokevirtual 248, 3) := by decide +kernel
theorem dX7_runCycle_45 : decode cX7_runCycle 45 = .ok (.iload_n 1, 1) := by decide +kernel
theorem dX7_runCycle_46 : decode cX7_runCycle 46 = .ok (.ireturn, 1) := by decide +kernel
theorem dX7_gatherReadyGroups_0 : decode cX7_gatherReadyGroups 0 = .ok (.aload_n 0, 1) := by decide +kernel
theorem dX7_gatherReadyGroups_1 : decode cX7_gatherReadyGroups 1 = .ok (.getfield 37, 3) := by decide +kernel
theorem dX7_gatherReadyGroups_4 : decode cX7_gatherReadyGroups 4 = .ok (.invokevirtual 251, 3) := by decide +kernel
theorem dX7_gatherReadyGroups_7 : decode cX7_gatherReadyGroups 7 = .ok (.iconst 0, 1) := by decide +kernel
theorem dX7_gatherReadyGroups_8 : decode cX7_gatherReadyGroups 8 = .ok (.istore_n 1, 1) := by decide +kernel
theorem dX7_gatherReadyGroups_9 : decode cX7_gatherReadyGroups 9 = .ok (.iload_n 1, 1) := by decide +kernel
theorem dX7_gatherReadyGroups_10 : decode cX7_gatherReadyGroups 10 = .ok (.aload_n 0, 1) := by decide +kernel
theorem dX7_gatherReadyGroups_11 : decode cX7_gatherReadyGroups 11 = .ok (.getfield 33, 3) := by decide +kernel
theorem dX7_gatherReadyGroups_14 : decode cX7_gatherReadyGroups 14 = .ok (.invokevirtual 81, 3) := by decide +kernel
theorem dX7_gatherReadyGroups_17 : decode cX7_gatherReadyGroups 17 = .ok (.if_icmp .ge 64, 3) := by decide +kernel
theorem dX7_gatherReadyGroups_20 : decode cX7_gatherReadyGroups 20 = .ok (.aload_n 0, 1) := by decide +kernel
theorem dX7_gatherReadyGroups_21 : decode cX7_gatherReadyGroups 21 = .ok (.getfield 33, 3) := by decide +kernel
theorem dX7_gatherReadyGroups_24 : decode cX7_gatherReadyGroups 24 = .ok (.iload_n 1, 1) := by decide +kernel
theorem dX7_gatherReadyGroups_25 : decode cX7_gatherReadyGroups 25 = .ok (.invokevirtual 202, 3) := by decide +kernel
theorem dX7_gatherReadyGroups_28 : decode cX7_gatherReadyGroups 28 = .ok (.checkcast 99, 3) := by decide +kernel
theorem dX7_gatherReadyGroups_31 : decode cX7_gatherReadyGroups 31 = .ok (.astore_n 2, 1) := by decide +kernel
theorem dX7_gatherReadyGroups_32 : decode cX7_gatherReadyGroups 32 = .ok (.aload_n 2, 1) := by decide +kernel
theorem dX7_gatherReadyGroups_33 : decode cX7_gatherReadyGroups 33 = .ok (.getfield 134, 3) := by decide +kernel
theorem dX7_gatherReadyGroups_36 : decode cX7_gatherReadyGroups 36 = .ok (.ifnull 39, 3) := by decide +kernel
theorem dX7_gatherReadyGroups_39 : decode cX7_gatherReadyGroups 39 = .ok (.aload_n 2, 1) := by decide +kernel
theorem dX7_gatherReadyGroups_40 : decode cX7_gatherReadyGroups 40 = .ok (.getfield 134, 3) := by decide +kernel
theorem dX7_gatherReadyGroups_43 : decode cX7_gatherReadyGroups 43 = .ok (.aload_n 2, 1) := by decide +kernel
theorem dX7_gatherReadyGroups_44 : decode cX7_gatherReadyGroups 44 = .ok (.invokevirtual 254, 3) := by decide +kernel
theorem dX7_gatherReadyGroups_47 : decode cX7_gatherReadyGroups 47 = .ok (.ifCond .eq 28, 3) := by decide +kernel
theorem dX7_gatherReadyGroups_50 : decode cX7_gatherReadyGroups 50 = .ok (.aload_n 2, 1) := by decide +kernel
theorem dX7_gatherReadyGroups_51 : decode cX7_gatherReadyGroups 51 = .ok (.getfield 134, 3) := by decide +kernel
theorem dX7_gatherReadyGroups_54 : decode cX7_gatherReadyGroups 54 = .ok (.aload_n 0, 1) := by decide +kernel
theorem dX7_gatherReadyGroups_55 : decode cX7_gatherReadyGroups 55 = .ok (.getfield 12, 3) := by decide +kernel
theorem dX7_gatherReadyGroups_58 : decode cX7_gatherReadyGroups 58 = .ok (.getfield 69, 3) := by decide +kernel
theorem dX7_gatherReadyGroups_61 : decode cX7_gatherReadyGroups 61 = .ok (.invokevirtual 258, 3) := by decide +kernel
theorem dX7_gatherReadyGroups_64 : decode cX7_gatherReadyGroups 64 = .ok (.ifCond .eq 11, 3) := by decide +kernel
theorem dX7_gatherReadyGroups_67 : decode cX7_gatherReadyGroups 67 = .ok (.aload_n 0, 1) := by decide +kernel
theorem dX7_gatherReadyGroups_68 : decode cX7_gatherReadyGroups 68 = .ok (.aload_n 2, 1) := by decide +kernel
theorem dX7_gatherReadyGroups_69 : decode cX7_gatherReadyGroups 69 = .ok (.getfield 134, 3) := by decide +kernel
theorem dX7_gatherReadyGroups_72 : decode cX7_gatherReadyGroups 72 = .ok (.invokevirtual 261, 3) := by decide +kernel
theorem dX7_gatherReadyGroups_75 : decode cX7_gatherReadyGroups 75 = .ok (.iinc 1 1, 3) := by decide +kernel
theorem dX7_gatherReadyGroups_78 : decode cX7_gatherReadyGroups 78 = .ok (.goto (-69), 3) := by decide +kernel
theorem dX7_gatherReadyGroups_81 : decode cX7_gatherReadyGroups 81 = .ok (.return_, 1) := by decide +kernel
theorem dX7_putInOrder_0 : decode cX7_putInOrder 0 = .ok (.aload_n 0, 1) := by decide +kernel
theorem dX7_putInOrder_1 : decode cX7_putInOrder 1 = .ok (.getfield 37, 3) := by decide +kernel
theorem dX7_putInOrder_4 : decode cX7_putInOrder 4 = .ok (.invokevirtual 81, 3) := by decide +kernel
theorem dX7_putInOrder_7 : decode cX7_putInOrder 7 = .ok (.istore_n 2, 1) := by decide +kernel
theorem dX7_putInOrder_8 : decode cX7_putInOrder 8 = .ok (.iload_n 2, 1) := by decide +kernel
theorem dX7_putInOrder_9 : decode cX7_putInOrder 9 = .ok (.ifCond .le 32, 3) := by decide +kernel
theorem dX7_putInOrder_12 : decode cX7_putInOrder 12 = .ok (.aload_n 0, 1) := by decide +kernel
theorem dX7_putInOrder_13 : decode cX7_putInOrder 13 = .ok (.getfield 37, 3) := by decide +kernel
theorem dX7_putInOrder_16 : decode cX7_putInOrder 16 = .ok (.iload_n 2, 1) := by decide +kernel
theorem dX7_putInOrder_17 : decode cX7_putInOrder 17 = .ok (.iconst 1, 1) := by decide +kernel
theorem dX7_putInOrder_18 : decode cX7_putInOrder 18 = .ok (.isub, 1) := by decide +kernel
theorem dX7_putInOrder_19 : decode cX7_putInOrder 19 = .ok (.invokevirtual 202, 3) := by decide +kernel
theorem dX7_putInOrder_22 : decode cX7_putInOrder 22 = .ok (.checkcast 142, 3) := by decide +kernel
theorem dX7_putInOrder_25 : decode cX7_putInOrder 25 = .ok (.invokevirtual 264, 3) := by decide +kernel
theorem dX7_putInOrder_28 : decode cX7_putInOrder 28 = .ok (.aload_n 1, 1) := by decide +kernel
theorem dX7_putInOrder_29 : decode cX7_putInOrder 29 = .ok (.invokevirtual 264, 3) := by decide +kernel
theorem dX7_putInOrder_32 : decode cX7_putInOrder 32 = .ok (.if_icmp .ge 9, 3) := by decide +kernel
theorem dX7_putInOrder_35 : decode cX7_putInOrder 35 = .ok (.iinc 2 (-1), 3) := by decide +kernel
theorem dX7_putInOrder_38 : decode cX7_putInOrder 38 = .ok (.goto (-30), 3) := by decide +kernel
theorem dX7_putInOrder_41 : decode cX7_putInOrder 41 = .ok (.aload_n 0, 1) := by decide +kernel
theorem dX7_putInOrder_42 : decode cX7_putInOrder 42 = .ok (.getfield 37, 3) := by decide +kernel
theorem dX7_putInOrder_45 : decode cX7_putInOrder 45 = .ok (.iload_n 2, 1) := by decide +kernel
theorem dX7_putInOrder_46 : decode cX7_putInOrder 46 = .ok (.aload_n 1, 1) := by decide +kernel
theorem dX7_putInOrder_47 : decode cX7_putInOrder 47 = .ok (.invokevirtual 266, 3) := by decide +kernel
theorem dX7_putInOrder_50 : decode cX7_putInOrder 50 = .ok (.return_, 1) := by decide +kernel
theorem dX7_settleCoveredGroups_0 : decode cX7_settleCoveredGroups 0 = .ok (.iconst 0, 1) := by decide +kernel
theorem dX7_settleCoveredGroups_1 : decode cX7_settleCoveredGroups 1 = .ok (.istore_n 1, 1) := by decide +kernel
theorem dX7_settleCoveredGroups_2 : decode cX7_settleCoveredGroups 2 = .ok (.iconst 0, 1) := by decide +kernel
theorem dX7_settleCoveredGroups_3 : decode cX7_settleCoveredGroups 3 = .ok (.istore_n 2, 1) := by decide +kernel
theorem dX7_settleCoveredGroups_4 : decode cX7_settleCoveredGroups 4 = .ok (.iload_n 2, 1) := by decide +kernel
theorem dX7_settleCoveredGroups_5 : decode cX7_settleCoveredGroups 5 = .ok (.aload_n 0, 1) := by decide +kernel
theorem dX7_settleCoveredGroups_6 : decode cX7_settleCoveredGroups 6 = .ok (.getfield 37, 3) := by decide +kernel
theorem dX7_settleCoveredGroups_9 : decode cX7_settleCoveredGroups 9 = .ok (.invokevirtual 81, 3) := by decide +kernel
theorem dX7_settleCoveredGroups_12 : decode cX7_settleCoveredGroups 12 = .ok (.if_icmp .ge 44, 3) := by decide +kernel
theorem dX7_settleCoveredGroups_15 : decode cX7_settleCoveredGroups 15 = .ok (.aload_n 0, 1) := by decide +kernel
theorem dX7_settleCoveredGroups_16 : decode cX7_settleCoveredGroups 16 = .ok (.getfield 37, 3) := by decide +kernel
theorem dX7_settleCoveredGroups_19 : decode cX7_settleCoveredGroups 19 = .ok (.iload_n 2, 1) := by decide +kernel
theorem dX7_settleCoveredGroups_20 : decode cX7_settleCoveredGroups 20 = .ok (.invokevirtual 202, 3) := by decide +kernel
theorem dX7_settleCoveredGroups_23 : decode cX7_settleCoveredGroups 23 = .ok (.checkcast 142, 3) := by decide +kernel
theorem dX7_settleCoveredGroups_26 : decode cX7_settleCoveredGroups 26 = .ok (.astore_n 3, 1) := by decide +kernel
theorem dX7_settleCoveredGroups_27 : decode cX7_settleCoveredGroups 27 = .ok (.aload_n 3, 1) := by decide +kernel
theorem dX7_settleCoveredGroups_28 : decode cX7_settleCoveredGroups 28 = .ok (.invokevirtual 141, 3) := by decide +kernel
theorem dX7_settleCoveredGroups_31 : decode cX7_settleCoveredGroups 31 = .ok (.ifCond .le 19, 3) := by decide +kernel
theorem dX7_settleCoveredGroups_34 : decode cX7_settleCoveredGroups 34 = .ok (.aload_n 0, 1) := by decide +kernel
theorem dX7_settleCoveredGroups_35 : decode cX7_settleCoveredGroups 35 = .ok (.aload_n 3, 1) := by decide +kernel
theorem dX7_settleCoveredGroups_36 : decode cX7_settleCoveredGroups 36 = .ok (.invokevirtual 269, 3) := by decide +kernel
theorem dX7_settleCoveredGroups_39 : decode cX7_settleCoveredGroups 39 = .ok (.ifCond .eq 11, 3) := by decide +kernel
theorem dX7_settleCoveredGroups_42 : decode cX7_settleCoveredGroups 42 = .ok (.iload_n 1, 1) := by decide +kernel
theorem dX7_settleCoveredGroups_43 : decode cX7_settleCoveredGroups 43 = .ok (.aload_n 0, 1) := by decide +kernel
theorem dX7_settleCoveredGroups_44 : decode cX7_settleCoveredGroups 44 = .ok (.aload_n 3, 1) := by decide +kernel
theorem dX7_settleCoveredGroups_45 : decode cX7_settleCoveredGroups 45 = .ok (.invokevirtual 273, 3) := by decide +kernel
theorem dX7_settleCoveredGroups_48 : decode cX7_settleCoveredGroups 48 = .ok (.iadd, 1) := by decide +kernel
theorem dX7_settleCoveredGroups_49 : decode cX7_settleCoveredGroups 49 = .ok (.istore_n 1, 1) := by decide +kernel
theorem dX7_settleCoveredGroups_50 : decode cX7_settleCoveredGroups 50 = .ok (.iinc 2 1, 3) := by decide +kernel
theorem dX7_settleCoveredGroups_53 : decode cX7_settleCoveredGroups 53 = .ok (.goto (-49), 3) := by decide +kernel
theorem dX7_settleCoveredGroups_56 : decode cX7_settleCoveredGroups 56 = .ok (.iload_n 1, 1) := by decide +kernel
theorem dX7_settleCoveredGroups_57 : decode cX7_settleCoveredGroups 57 = .ok (.ireturn, 1) := by decide +kernel
theorem dX7_isCovered_0 : decode cX7_isCovered 0 = .ok (.iconst 0, 1) := by decide +kernel
theorem dX7_isCovered_1 : decode cX7_isCovered 1 = .ok (.istore_n 2, 1) := by decide +kernel
theorem dX7_isCovered_2 : decode cX7_isCovered 2 = .ok (.iload_n 2, 1) := by decide +kernel
theorem dX7_isCovered_3 : decode cX7_isCovered 3 = .ok (.aload_n 1, 1) := by decide +kernel
theorem dX7_isCovered_4 : decode cX7_isCovered 4 = .ok (.getfield 277, 3) := by decide +kernel
theorem dX7_isCovered_7 : decode cX7_isCovered 7 = .ok (.invokevirtual 81, 3) := by decide +kernel
theorem dX7_isCovered_10 : decode cX7_isCovered 10 = .ok (.if_icmp .ge 96, 3) := by decide +kernel
theorem dX7_isCovered_13 : decode cX7_isCovered 13 = .ok (.aload_n 1, 1) := by decide +kernel
theorem dX7_isCovered_14 : decode cX7_isCovered 14 = .ok (.getfield 277, 3) := by decide +kernel
theorem dX7_isCovered_17 : decode cX7_isCovered 17 = .ok (.iload_n 2, 1) := by decide +kernel
theorem dX7_isCovered_18 : decode cX7_isCovered 18 = .ok (.invokevirtual 202, 3) := by decide +kernel
theorem dX7_isCovered_21 : decode cX7_isCovered 21 = .ok (.checkcast 99, 3) := by decide +kernel
theorem dX7_isCovered_24 : decode cX7_isCovered 24 = .ok (.getfield 172, 3) := by decide +kernel
theorem dX7_isCovered_27 : decode cX7_isCovered 27 = .ok (.astore_n 3, 1) := by decide +kernel
theorem dX7_isCovered_28 : decode cX7_isCovered 28 = .ok (.aload_n 3, 1) := by decide +kernel
theorem dX7_isCovered_29 : decode cX7_isCovered 29 = .ok (.getfield 182, 3) := by decide +kernel
theorem dX7_isCovered_32 : decode cX7_isCovered 32 = .ok (.istore 4, 2) := by decide +kernel
theorem dX7_isCovered_34 : decode cX7_isCovered 34 = .ok (.aload_n 0, 1) := by decide +kernel
theorem dX7_isCovered_35 : decode cX7_isCovered 35 = .ok (.getfield 19, 3) := by decide +kernel
theorem dX7_isCovered_38 : decode cX7_isCovered 38 = .ok (.aload_n 3, 1) := by decide +kernel
theorem dX7_isCovered_39 : decode cX7_isCovered 39 = .ok (.getfield 176, 3) := by decide +kernel
theorem dX7_isCovered_42 : decode cX7_isCovered 42 = .ok (.iload 4, 2) := by decide +kernel
theorem dX7_isCovered_44 : decode cX7_isCovered 44 = .ok (.invokevirtual 56, 3) := by decide +kernel
theorem dX7_isCovered_47 : decode cX7_isCovered 47 = .ok (.aload_n 1, 1) := by decide +kernel
theorem dX7_isCovered_48 : decode cX7_isCovered 48 = .ok (.aload_n 3, 1) := by decide +kernel
theorem dX7_isCovered_49 : decode cX7_isCovered 49 = .ok (.getfield 176, 3) := by decide +kernel
theorem dX7_isCovered_52 : decode cX7_isCovered 52 = .ok (.iload 4, 2) := by decide +kernel
theorem dX7_isCovered_54 : decode cX7_isCovered 54 = .ok (.invokevirtual 280, 3) := by decide +kernel
theorem dX7_isCovered_57 : decode cX7_isCovered 57 = .ok (.ladd, 1) := by decide +kernel
theorem dX7_isCovered_58 : decode cX7_isCovered 58 = .ok (.lstore 5, 2) := by decide +kernel
theorem dX7_isCovered_60 : decode cX7_isCovered 60 = .ok (.aload_n 0, 1) := by decide +kernel
theorem dX7_isCovered_61 : decode cX7_isCovered 61 = .ok (.getfield 19, 3) := by decide +kernel
theorem dX7_isCovered_64 : decode cX7_isCovered 64 = .ok (.aload_n 3, 1) := by decide +kernel
theorem dX7_isCovered_65 : decode cX7_isCovered 65 = .ok (.getfield 179, 3) := by decide +kernel
theorem dX7_isCovered_68 : decode cX7_isCovered 68 = .ok (.iconst (-1), 1) := by decide +kernel
theorem dX7_isCovered_69 : decode cX7_isCovered 69 = .ok (.invokevirtual 56, 3) := by decide +kernel
theorem dX7_isCovered_72 : decode cX7_isCovered 72 = .ok (.aload_n 1, 1) := by decide +kernel
theorem dX7_isCovered_73 : decode cX7_isCovered 73 = .ok (.aload_n 3, 1) := by decide +kernel
theorem dX7_isCovered_74 : decode cX7_isCovered 74 = .ok (.getfield 179, 3) := by decide +kernel
theorem dX7_isCovered_77 : decode cX7_isCovered 77 = .ok (.iconst (-1), 1) := by decide +kernel
theorem dX7_isCovered_78 : decode cX7_isCovered 78 = .ok (.invokevirtual 280, 3) := by decide +kernel
theorem dX7_isCovered_81 : decode cX7_isCovered 81 = .ok (.ladd, 1) := by decide +kernel
theorem dX7_isCovered_82 : decode cX7_isCovered 82 = .ok (.lstore 7, 2) := by decide +kernel
theorem dX7_isCovered_84 : decode cX7_isCovered 84 = .ok (.lload 5, 2) := by decide +kernel
theorem dX7_isCovered_86 : decode cX7_isCovered 86 = .ok (.lconst 0, 1) := by decide +kernel
theorem dX7_isCovered_87 : decode cX7_isCovered 87 = .ok (.lcmp, 1) := by decide +kernel
theorem dX7_isCovered_88 : decode cX7_isCovered 88 = .ok (.ifCond .lt 10, 3) := by decide +kernel
theorem dX7_isCovered_91 : decode cX7_isCovered 91 = .ok (.lload 7, 2) := by decide +kernel
theorem dX7_isCovered_93 : decode cX7_isCovered 93 = .ok (.lconst 0, 1) := by decide +kernel
theorem dX7_isCovered_94 : decode cX7_isCovered 94 = .ok (.lcmp, 1) := by decide +kernel
theorem dX7_isCovered_95 : decode cX7_isCovered 95 = .ok (.ifCond .ge 5, 3) := by decide +kernel
theorem dX7_isCovered_98 : decode cX7_isCovered 98 = .ok (.iconst 0, 1) := by decide +kernel
theorem dX7_isCovered_99 : decode cX7_isCovered 99 = .ok (.ireturn, 1) := by decide +kernel
theorem dX7_isCovered_100 : decode cX7_isCovered 100 = .ok (.iinc 2 1, 3) := by decide +kernel
theorem dX7_isCovered_103 : decode cX7_isCovered 103 = .ok (.goto (-101), 3) := by decide +kernel
theorem dX7_isCovered_106 : decode cX7_isCovered 106 = .ok (.iconst 1, 1) := by decide +kernel
theorem dX7_isCovered_107 : decode cX7_isCovered 107 = .ok (.ireturn, 1) := by decide +kernel
theorem dX7_settleWholly_0 : decode cX7_settleWholly 0 = .ok (.aload_n 1, 1) := by decide +kernel
theorem dX7_settleWholly_1 : decode cX7_settleWholly 1 = .ok (.invokevirtual 141, 3) := by decide +kernel
theorem dX7_settleWholly_4 : decode cX7_settleWholly 4 = .ok (.istore_n 2, 1) := by decide +kernel
theorem dX7_settleWholly_5 : decode cX7_settleWholly 5 = .ok (.iload_n 2, 1) := by decide +kernel
theorem dX7_settleWholly_6 : decode cX7_settleWholly 6 = .ok (.istore_n 3, 1) := by decide +kernel
theorem dX7_settleWholly_7 : decode cX7_settleWholly 7 = .ok (.iload_n 3, 1) := by decide +kernel
theorem dX7_settleWholly_8 : decode cX7_settleWholly 8 = .ok (.ifCond .le 54, 3) := by decide +kernel
theorem dX7_settleWholly_11 : decode cX7_settleWholly 11 = .ok (.aload_n 1, 1) := by decide +kernel
theorem dX7_settleWholly_12 : decode cX7_settleWholly 12 = .ok (.getfield 277, 3) := by decide +kernel
theorem dX7_settleWholly_15 : decode cX7_settleWholly 15 = .ok (.invokevirtual 283, 3) := by decide +kernel
theorem dX7_settleWholly_18 : decode cX7_settleWholly 18 = .ok (.ifCond .ne 44, 3) := by decide +kernel
theorem dX7_settleWholly_21 : decode cX7_settleWholly 21 = .ok (.aload_n 1, 1) := by decide +kernel
theorem dX7_settleWholly_22 : decode cX7_settleWholly 22 = .ok (.getfield 277, 3) := by decide +kernel
theorem dX7_settleWholly_25 : decode cX7_settleWholly 25 = .ok (.iconst 0, 1) := by decide +kernel
theorem dX7_settleWholly_26 : decode cX7_settleWholly 26 = .ok (.invokevirtual 202, 3) := by decide +kernel
theorem dX7_settleWholly_29 : decode cX7_settleWholly 29 = .ok (.checkcast 99, 3) := by decide +kernel
theorem dX7_settleWholly_32 : decode cX7_settleWholly 32 = .ok (.astore 4, 2) := by decide +kernel
theorem dX7_settleWholly_34 : decode cX7_settleWholly 34 = .ok (.aload_n 0, 1) := by decide +kernel
theorem dX7_settleWholly_35 : decode cX7_settleWholly 35 = .ok (.aload 4, 2) := by decide +kernel
theorem dX7_settleWholly_37 : decode cX7_settleWholly 37 = .ok (.aload 4, 2) := by decide +kernel
theorem dX7_settleWholly_39 : decode cX7_settleWholly 39 = .ok (.getfield 166, 3) := by decide +kernel
theorem dX7_settleWholly_42 : decode cX7_settleWholly 42 = .ok (.aload 4, 2) := by decide +kernel
theorem dX7_settleWholly_44 : decode cX7_settleWholly 44 = .ok (.getfield 169, 3) := by decide +kernel
theorem dX7_settleWholly_47 : decode cX7_settleWholly 47 = .ok (.invokevirtual 286, 3) := by decide +kernel
theorem dX7_settleWholly_50 : decode cX7_settleWholly 50 = .ok (.aload 4, 2) := by decide +kernel
theorem dX7_settleWholly_52 : decode cX7_settleWholly 52 = .ok (.iconst 2, 1) := by decide +kernel
theorem dX7_settleWholly_53 : decode cX7_settleWholly 53 = .ok (.invokevirtual 157, 3) := by decide +kernel
theorem dX7_settleWholly_56 : decode cX7_settleWholly 56 = .ok (.iinc 3 (-1), 3) := by decide +kernel
theorem dX7_settleWholly_59 : decode cX7_settleWholly 59 = .ok (.goto (-52), 3) := by decide +kernel
theorem dX7_settleWholly_62 : decode cX7_settleWholly 62 = .ok (.iload_n 2, 1) := by decide +kernel
theorem dX7_settleWholly_63 : decode cX7_settleWholly 63 = .ok (.ireturn, 1) := by decide +kernel
theorem dX7_settle_0 : decode cX7_settle 0 = .ok (.aload_n 1, 1) := by decide +kernel
theorem dX7_settle_1 : decode cX7_settle 1 = .ok (.getfield 172, 3) := by decide +kernel
theorem dX7_settle_4 : decode cX7_settle 4 = .ok (.astore 4, 2) := by decide +kernel
theorem dX7_settle_6 : decode cX7_settle 6 = .ok (.aload_n 0, 1) := by decide +kernel
theorem dX7_settle_7 : decode cX7_settle 7 = .ok (.getfield 19, 3) := by decide +kernel
theorem dX7_settle_10 : decode cX7_settle 10 = .ok (.aload 4, 2) := by decide +kernel
theorem dX7_settle_12 : decode cX7_settle 12 = .ok (.getfield 176, 3) := by decide +kernel
theorem dX7_settle_15 : decode cX7_settle 15 = .ok (.aload 4, 2) := by decide +kernel
theorem dX7_settle_17 : decode cX7_settle 17 = .ok (.getfield 179, 3) := by decide +kernel
theorem dX7_settle_20 : decode cX7_settle 20 = .ok (.aload 4, 2) := by decide +kernel
theorem dX7_settle_22 : decode cX7_settle 22 = .ok (.getfield 182, 3) := by decide +kernel
theorem dX7_settle_25 : decode cX7_settle 25 = .ok (.iload_n 2, 1) := by decide +kernel
theorem dX7_settle_26 : decode cX7_settle 26 = .ok (.invokevirtual 290, 3) := by decide +kernel
theorem dX7_settle_29 : decode cX7_settle 29 = .ok (.aload_n 0, 1) := by decide +kernel
theorem dX7_settle_30 : decode cX7_settle 30 = .ok (.getfield 19, 3) := by decide +kernel
theorem dX7_settle_33 : decode cX7_settle 33 = .ok (.aload 4, 2) := by decide +kernel
theorem dX7_settle_35 : decode cX7_settle 35 = .ok (.getfield 179, 3) := by decide +kernel
theorem dX7_settle_38 : decode cX7_settle 38 = .ok (.aload 4, 2) := by decide +kernel
theorem dX7_settle_40 : decode cX7_settle 40 = .ok (.getfield 176, 3) := by decide +kernel
theorem dX7_settle_43 : decode cX7_settle 43 = .ok (.iconst (-1), 1) := by decide +kernel
theorem dX7_settle_44 : decode cX7_settle 44 = .ok (.iload_n 3, 1) := by decide +kernel
theorem dX7_settle_45 : decode cX7_settle 45 = .ok (.invokevirtual 290, 3) := by decide +kernel
theorem dX7_settle_48 : decode cX7_settle 48 = .ok (.aload_n 1, 1) := by decide +kernel
theorem dX7_settle_49 : decode cX7_settle 49 = .ok (.dup, 1) := by decide +kernel
theorem dX7_settle_50 : decode cX7_settle 50 = .ok (.getfield 166, 3) := by decide +kernel
theorem dX7_settle_53 : decode cX7_settle 53 = .ok (.iload_n 2, 1) := by decide +kernel
theorem dX7_settle_54 : decode cX7_settle 54 = .ok (.isub, 1) := by decide +kernel
theorem dX7_settle_55 : decode cX7_settle 55 = .ok (.putfield 166, 3) := by decide +kernel
theorem dX7_settle_58 : decode cX7_settle 58 = .ok (.aload_n 1, 1) := by decide +kernel
theorem dX7_settle_59 : decode cX7_settle 59 = .ok (.dup, 1) := by decide +kernel
theorem dX7_settle_60 : decode cX7_settle 60 = .ok (.getfield 169, 3) := by decide +kernel
theorem dX7_settle_63 : decode cX7_settle 63 = .ok (.iload_n 3, 1) := by decide +kernel
theorem dX7_settle_64 : decode cX7_settle 64 = .ok (.isub, 1) := by decide +kernel
theorem dX7_settle_65 : decode cX7_settle 65 = .ok (.putfield 169, 3) := by decide +kernel
theorem dX7_settle_68 : decode cX7_settle 68 = .ok (.aload_n 0, 1) := by decide +kernel
theorem dX7_settle_69 : decode cX7_settle 69 = .ok (.getfield 26, 3) := by decide +kernel
theorem dX7_settle_72 : decode cX7_settle 72 = .ok (.aload_n 1, 1) := by decide +kernel
theorem dX7_settle_73 : decode cX7_settle 73 = .ok (.getfield 98, 3) := by decide +kernel
theorem dX7_settle_76 : decode cX7_settle 76 = .ok (.iload_n 2, 1) := by decide +kernel
theorem dX7_settle_77 : decode cX7_settle 77 = .ok (.iload_n 3, 1) := by decide +kernel
theorem dX7_settle_78 : decode cX7_settle 78 = .ok (.aload_n 0, 1) := by decide +kernel
theorem dX7_settle_79 : decode cX7_settle 79 = .ok (.getfield 12, 3) := by decide +kernel
theorem dX7_settle_82 : decode cX7_settle 82 = .ok (.getfield 69, 3) := by decide +kernel
theorem dX7_settle_85 : decode cX7_settle 85 = .ok (.invokevirtual 294, 3) := by decide +kernel
theorem dX7_settle_88 : decode cX7_settle 88 = .ok (.return_, 1) := by decide +kernel
theorem dX7_settleParts_0 : decode cX7_settleParts 0 = .ok (.iconst 0, 1) := by decide +kernel
theorem dX7_settleParts_1 : decode cX7_settleParts 1 = .ok (.istore_n 1, 1) := by decide +kernel
theorem dX7_settleParts_2 : decode cX7_settleParts 2 = .ok (.iload_n 1, 1) := by decide +kernel
theorem dX7_settleParts_3 : decode cX7_settleParts 3 = .ok (.aload_n 0, 1) := by decide +kernel
theorem dX7_settleParts_4 : decode cX7_settleParts 4 = .ok (.getfield 37, 3) := by decide +kernel
theorem dX7_settleParts_7 : decode cX7_settleParts 7 = .ok (.invokevirtual 81, 3) := by decide +kernel
theorem dX7_settleParts_10 : decode cX7_settleParts 10 = .ok (.if_icmp .ge 47, 3) := by decide +kernel
theorem dX7_settleParts_13 : decode cX7_settleParts 13 = .ok (.aload_n 0, 1) := by decide +kernel
theorem dX7_settleParts_14 : decode cX7_settleParts 14 = .ok (.getfield 37, 3) := by decide +kernel
theorem dX7_settleParts_17 : decode cX7_settleParts 17 = .ok (.iload_n 1, 1) := by decide +kernel
theorem dX7_settleParts_18 : decode cX7_settleParts 18 = .ok (.invokevirtual 202, 3) := by decide +kernel
theorem dX7_settleParts_21 : decode cX7_settleParts 21 = .ok (.checkcast 142, 3) := by decide +kernel
theorem dX7_settleParts_24 : decode cX7_settleParts 24 = .ok (.astore_n 2, 1) := by decide +kernel
theorem dX7_settleParts_25 : decode cX7_settleParts 25 = .ok (.aload_n 2, 1) := by decide +kernel
theorem dX7_settleParts_26 : decode cX7_settleParts 26 = .ok (.getfield 277, 3) := by decide +kernel
theorem dX7_settleParts_29 : decode cX7_settleParts 29 = .ok (.invokevirtual 81, 3) := by decide +kernel
theorem dX7_settleParts_32 : decode cX7_settleParts 32 = .ok (.iconst 1, 1) := by decide +kernel
theorem dX7_settleParts_33 : decode cX7_settleParts 33 = .ok (.if_icmp .ne 18, 3) := by decide +kernel
theorem dX7_settleParts_36 : decode cX7_settleParts 36 = .ok (.aload_n 0, 1) := by decide +kernel
theorem dX7_settleParts_37 : decode cX7_settleParts 37 = .ok (.aload_n 2, 1) := by decide +kernel
theorem dX7_settleParts_38 : decode cX7_settleParts 38 = .ok (.getfield 277, 3) := by decide +kernel
theorem dX7_settleParts_41 : decode cX7_settleParts 41 = .ok (.iconst 0, 1) := by decide +kernel
theorem dX7_settleParts_42 : decode cX7_settleParts 42 = .ok (.invokevirtual 202, 3) := by decide +kernel
theorem dX7_settleParts_45 : decode cX7_settleParts 45 = .ok (.checkcast 99, 3) := by decide +kernel
theorem dX7_settleParts_48 : decode cX7_settleParts 48 = .ok (.invokevirtual 297, 3) := by decide +kernel
theorem dX7_settleParts_51 : decode cX7_settleParts 51 = .ok (.iinc 1 1, 3) := by decide +kernel
theorem dX7_settleParts_54 : decode cX7_settleParts 54 = .ok (.goto (-52), 3) := by decide +kernel
theorem dX7_settleParts_57 : decode cX7_settleParts 57 = .ok (.return_, 1) := by decide +kernel
theorem dX7_settlePartOf_0 : decode cX7_settlePartOf 0 = .ok (.aload_n 1, 1) := by decide +kernel
theorem dX7_settlePartOf_1 : decode cX7_settlePartOf 1 = .ok (.getfield 131, 3) := by decide +kernel
theorem dX7_settlePartOf_4 : decode cX7_settlePartOf 4 = .ok (.ifCond .eq 11, 3) := by decide +kernel
theorem dX7_settlePartOf_7 : decode cX7_settlePartOf 7 = .ok (.aload_n 0, 1) := by decide +kernel
theorem dX7_settlePartOf_8 : decode cX7_settlePartOf 8 = .ok (.aload_n 1, 1) := by decide +kernel
theorem dX7_settlePartOf_9 : decode cX7_settlePartOf 9 = .ok (.invokevirtual 300, 3) := by decide +kernel
theorem dX7_settlePartOf_12 : decode cX7_settlePartOf 12 = .ok (.goto 4, 3) := by decide +kernel
theorem dX7_settlePartOf_15 : decode cX7_settlePartOf 15 = .ok (.iconst 0, 1) := by decide +kernel
theorem dX7_settlePartOf_16 : decode cX7_settlePartOf 16 = .ok (.istore_n 2, 1) := by decide +kernel
theorem dX7_settlePartOf_17 : decode cX7_settlePartOf 17 = .ok (.iload_n 2, 1) := by decide +kernel
theorem dX7_settlePartOf_18 : decode cX7_settlePartOf 18 = .ok (.ifCond .le 14, 3) := by decide +kernel
theorem dX7_settlePartOf_21 : decode cX7_settlePartOf 21 = .ok (.aload_n 0, 1) := by decide +kernel
theorem dX7_settlePartOf_22 : decode cX7_settlePartOf 22 = .ok (.aload_n 1, 1) := by decide +kernel
theorem dX7_settlePartOf_23 : decode cX7_settlePartOf 23 = .ok (.iload_n 2, 1) := by decide +kernel
theorem dX7_settlePartOf_24 : decode cX7_settlePartOf 24 = .ok (.aload_n 1, 1) := by decide +kernel
theorem dX7_settlePartOf_25 : decode cX7_settlePartOf 25 = .ok (.iload_n 2, 1) := by decide +kernel
theorem dX7_settlePartOf_26 : decode cX7_settlePartOf 26 = .ok (.invokevirtual 304, 3) := by decide +kernel
theorem dX7_settlePartOf_29 : decode cX7_settlePartOf 29 = .ok (.invokevirtual 286, 3) := by decide +kernel
theorem dX7_settlePartOf_32 : decode cX7_settlePartOf 32 = .ok (.return_, 1) := by decide +kernel
theorem dX7_greatestPart_0 : decode cX7_greatestPart 0 = .ok (.aload_n 1, 1) := by decide +kernel
theorem dX7_greatestPart_1 : decode cX7_greatestPart 1 = .ok (.getfield 166, 3) := by decide +kernel
theorem dX7_greatestPart_4 : decode cX7_greatestPart 4 = .ok (.iconst 1, 1) := by decide +kernel
theorem dX7_greatestPart_5 : decode cX7_greatestPart 5 = .ok (.isub, 1) := by decide +kernel
theorem dX7_greatestPart_6 : decode cX7_greatestPart 6 = .ok (.i2l, 1) := by decide +kernel
theorem dX7_greatestPart_7 : decode cX7_greatestPart 7 = .ok (.aload_n 0, 1) := by decide +kernel
theorem dX7_greatestPart_8 : decode cX7_greatestPart 8 = .ok (.getfield 19, 3) := by decide +kernel
theorem dX7_greatestPart_11 : decode cX7_greatestPart 11 = .ok (.aload_n 1, 1) := by decide +kernel
theorem dX7_greatestPart_12 : decode cX7_greatestPart 12 = .ok (.getfield 172, 3) := by decide +kernel
theorem dX7_greatestPart_15 : decode cX7_greatestPart 15 = .ok (.getfield 176, 3) := by decide +kernel
theorem dX7_greatestPart_18 : decode cX7_greatestPart 18 = .ok (.aload_n 1, 1) := by decide +kernel
theorem dX7_greatestPart_19 : decode cX7_greatestPart 19 = .ok (.getfield 172, 3) := by decide +kernel
theorem dX7_greatestPart_22 : decode cX7_greatestPart 22 = .ok (.getfield 182, 3) := by decide +kernel
theorem dX7_greatestPart_25 : decode cX7_greatestPart 25 = .ok (.invokevirtual 56, 3) := by decide +kernel
theorem dX7_greatestPart_28 : decode cX7_greatestPart 28 = .ok (.invokestatic 307, 3) := by decide +kernel
theorem dX7_greatestPart_31 : decode cX7_greatestPart 31 = .ok (.lstore_n 2, 1) := by decide +kernel
theorem dX7_greatestPart_32 : decode cX7_greatestPart 32 = .ok (.aload_n 0, 1) := by decide +kernel
theorem dX7_greatestPart_33 : decode cX7_greatestPart 33 = .ok (.getfield 19, 3) := by decide +kernel
theorem dX7_greatestPart_36 : decode cX7_greatestPart 36 = .ok (.aload_n 1, 1) := by decide +kernel
theorem dX7_greatestPart_37 : decode cX7_greatestPart 37 = .ok (.getfield 172, 3) := by decide +kernel
theorem dX7_greatestPart_40 : decode cX7_greatestPart 40 = .ok (.getfield 179, 3) := by decide +kernel
theorem dX7_greatestPart_43 : decode cX7_greatestPart 43 = .ok (.iconst (-1), 1) := by decide +kernel
theorem dX7_greatestPart_44 : decode cX7_greatestPart 44 = .ok (.invokevirtual 56, 3) := by decide +kernel
theorem dX7_greatestPart_47 : decode cX7_greatestPart 47 = .ok (.lstore 4, 2) := by decide +kernel
theorem dX7_greatestPart_49 : decode cX7_greatestPart 49 = .ok (.aload_n 1, 1) := by decide +kernel
theorem dX7_greatestPart_50 : decode cX7_greatestPart 50 = .ok (.getfield 169, 3) := by decide +kernel
theorem dX7_greatestPart_53 : decode cX7_greatestPart 53 = .ok (.ifCond .le 37, 3) := by decide +kernel
theorem dX7_greatestPart_56 : decode cX7_greatestPart 56 = .ok (.aload_n 1, 1) := by decide +kernel
theorem dX7_greatestPart_57 : decode cX7_greatestPart 57 = .ok (.getfield 169, 3) := by decide +kernel
theorem dX7_greatestPart_60 : decode cX7_greatestPart 60 = .ok (.i2l, 1) := by decide +kernel
theorem dX7_greatestPart_61 : decode cX7_greatestPart 61 = .ok (.lload 4, 2) := by decide +kernel
theorem dX7_greatestPart_63 : decode cX7_greatestPart 63 = .ok (.lcmp, 1) := by decide +kernel
theorem dX7_greatestPart_64 : decode cX7_greatestPart 64 = .ok (.ifCond .le 26, 3) := by decide +kernel
theorem dX7_greatestPart_67 : decode cX7_greatestPart 67 = .ok (.lload_n 2, 1) := by decide +kernel
theorem dX7_greatestPart_68 : decode cX7_greatestPart 68 = .ok (.lload 4, 2) := by decide +kernel
theorem dX7_greatestPart_70 : decode cX7_greatestPart 70 = .ok (.lconst 1, 1) := by decide +kernel
theorem dX7_greatestPart_71 : decode cX7_greatestPart 71 = .ok (.ladd, 1) := by decide +kernel
theorem dX7_greatestPart_72 : decode cX7_greatestPart 72 = .ok (.aload_n 1, 1) := by decide +kernel
theorem dX7_greatestPart_73 : decode cX7_greatestPart 73 = .ok (.getfield 166, 3) := by decide +kernel
theorem dX7_greatestPart_76 : decode cX7_greatestPart 76 = .ok (.i2l, 1) := by decide +kernel
theorem dX7_greatestPart_77 : decode cX7_greatestPart 77 = .ok (.lmul, 1) := by decide +kernel
theorem dX7_greatestPart_78 : decode cX7_greatestPart 78 = .ok (.lconst 1, 1) := by decide +kernel
theorem dX7_greatestPart_79 : decode cX7_greatestPart 79 = .ok (.lsub, 1) := by decide +kernel
theorem dX7_greatestPart_80 : decode cX7_greatestPart 80 = .ok (.aload_n 1, 1) := by decide +kernel
theorem dX7_greatestPart_81 : decode cX7_greatestPart 81 = .ok (.getfield 169, 3) := by decide +kernel
theorem dX7_greatestPart_84 : decode cX7_greatestPart 84 = .ok (.i2l, 1) := by decide +kernel
theorem dX7_greatestPart_85 : decode cX7_greatestPart 85 = .ok (.ldiv, 1) := by decide +kernel
theorem dX7_greatestPart_86 : decode cX7_greatestPart 86 = .ok (.invokestatic 307, 3) := by decide +kernel
theorem dX7_greatestPart_89 : decode cX7_greatestPart 89 = .ok (.lstore_n 2, 1) := by decide +kernel
theorem dX7_greatestPart_90 : decode cX7_greatestPart 90 = .ok (.lload_n 2, 1) := by decide +kernel
theorem dX7_greatestPart_91 : decode cX7_greatestPart 91 = .ok (.l2i, 1) := by decide +kernel
theorem dX7_greatestPart_92 : decode cX7_greatestPart 92 = .ok (.ireturn, 1) := by decide +kernel
theorem dX7_failDueTrades_0 : decode cX7_failDueTrades 0 = .ok (.iconst 0, 1) := by decide +kernel
theorem dX7_failDueTrades_1 : decode cX7_failDueTrades 1 = .ok (.istore_n 1, 1) := by decide +kernel
theorem dX7_failDueTrades_2 : decode cX7_failDueTrades 2 = .ok (.iload_n 1, 1) := by decide +kernel
theorem dX7_failDueTrades_3 : decode cX7_failDueTrades 3 = .ok (.aload_n 0, 1) := by decide +kernel
theorem dX7_failDueTrades_4 : decode cX7_failDueTrades 4 = .ok (.getfield 33, 3) := by decide +kernel
theorem dX7_failDueTrades_7 : decode cX7_failDueTrades 7 = .ok (.invokevirtual 81, 3) := by decide +kernel
theorem dX7_failDueTrades_10 : decode cX7_failDueTrades 10 = .ok (.if_icmp .ge 67, 3) := by decide +kernel
theorem dX7_failDueTrades_13 : decode cX7_failDueTrades 13 = .ok (.aload_n 0, 1) := by decide +kernel
theorem dX7_failDueTrades_14 : decode cX7_failDueTrades 14 = .ok (.getfield 33, 3) := by decide +kernel
theorem dX7_failDueTrades_17 : decode cX7_failDueTrades 17 = .ok (.iload_n 1, 1) := by decide +kernel
theorem dX7_failDueTrades_18 : decode cX7_failDueTrades 18 = .ok (.invokevirtual 202, 3) := by decide +kernel
theorem dX7_failDueTrades_21 : decode cX7_failDueTrades 21 = .ok (.checkcast 99, 3) := by decide +kernel
theorem dX7_failDueTrades_24 : decode cX7_failDueTrades 24 = .ok (.astore_n 2, 1) := by decide +kernel
theorem dX7_failDueTrades_25 : decode cX7_failDueTrades 25 = .ok (.aload_n 2, 1) := by decide +kernel
theorem dX7_failDueTrades_26 : decode cX7_failDueTrades 26 = .ok (.getfield 151, 3) := by decide +kernel
theorem dX7_failDueTrades_29 : decode cX7_failDueTrades 29 = .ok (.iconst 1, 1) := by decide +kernel
theorem dX7_failDueTrades_30 : decode cX7_failDueTrades 30 = .ok (.if_icmp .ne 41, 3) := by decide +kernel
theorem dX7_failDueTrades_33 : decode cX7_failDueTrades 33 = .ok (.aload_n 2, 1) := by decide +kernel
theorem dX7_failDueTrades_34 : decode cX7_failDueTrades 34 = .ok (.getfield 163, 3) := by decide +kernel
theorem dX7_failDueTrades_37 : decode cX7_failDueTrades 37 = .ok (.aload_n 0, 1) := by decide +kernel
theorem dX7_failDueTrades_38 : decode cX7_failDueTrades 38 = .ok (.getfield 12, 3) := by decide +kernel
theorem dX7_failDueTrades_41 : decode cX7_failDueTrades 41 = .ok (.getfield 69, 3) := by decide +kernel
theorem dX7_failDueTrades_44 : decode cX7_failDueTrades 44 = .ok (.if_icmp .gt 27, 3) := by decide +kernel
theorem dX7_failDueTrades_47 : decode cX7_failDueTrades 47 = .ok (.aload_n 2, 1) := by decide +kernel
theorem dX7_failDueTrades_48 : decode cX7_failDueTrades 48 = .ok (.dup, 1) := by decide +kernel
theorem dX7_failDueTrades_49 : decode cX7_failDueTrades 49 = .ok (.getfield 185, 3) := by decide +kernel
theorem dX7_failDueTrades_52 : decode cX7_failDueTrades 52 = .ok (.iconst 1, 1) := by decide +kernel
theorem dX7_failDueTrades_53 : decode cX7_failDueTrades 53 = .ok (.iadd, 1) := by decide +kernel
theorem dX7_failDueTrades_54 : decode cX7_failDueTrades 54 = .ok (.putfield 185, 3) := by decide +kernel
theorem dX7_failDueTrades_57 : decode cX7_failDueTrades 57 = .ok (.aload_n 2, 1) := by decide +kernel
theorem dX7_failDueTrades_58 : decode cX7_failDueTrades 58 = .ok (.getfield 185, 3) := by decide +kernel
theorem dX7_failDueTrades_61 : decode cX7_failDueTrades 61 = .ok (.bipush 10, 2) := by decide +kernel
theorem dX7_failDueTrades_63 : decode cX7_failDueTrades 63 = .ok (.if_icmp .ne 8, 3) := by decide +kernel
theorem dX7_failDueTrades_66 : decode cX7_failDueTrades 66 = .ok (.aload_n 2, 1) := by decide +kernel
theorem dX7_failDueTrades_67 : decode cX7_failDueTrades 67 = .ok (.iconst 4, 1) := by decide +kernel
theorem dX7_failDueTrades_68 : decode cX7_failDueTrades 68 = .ok (.invokevirtual 157, 3) := by decide +kernel
theorem dX7_failDueTrades_71 : decode cX7_failDueTrades 71 = .ok (.iinc 1 1, 3) := by decide +kernel
theorem dX7_failDueTrades_74 : decode cX7_failDueTrades 74 = .ok (.goto (-72), 3) := by decide +kernel
theorem dX7_failDueTrades_77 : decode cX7_failDueTrades 77 = .ok (.return_, 1) := by decide +kernel
theorem dX8_init_0 : decode cX8_init 0 = .ok (.aload_n 0, 1) := by decide +kernel
theorem dX8_init_1 : decode cX8_init 1 = .ok (.invokespecial 1, 3) := by decide +kernel
theorem dX8_init_4 : decode cX8_init 4 = .ok (.aload_n 0, 1) := by decide +kernel
theorem dX8_init_5 : decode cX8_init 5 = .ok (.sipush 20001, 3) := by decide +kernel
theorem dX8_init_8 : decode cX8_init 8 = .ok (.newarray .boolean, 2) := by decide +kernel
theorem dX8_init_10 : decode cX8_init 10 = .ok (.putfield 7, 3) := by decide +kernel
theorem dX8_init_13 : decode cX8_init 13 = .ok (.aload_n 0, 1) := by decide +kernel
theorem dX8_init_14 : decode cX8_init 14 = .ok (.sipush 144, 3) := by decide +kernel
theorem dX8_init_17 : decode cX8_init 17 = .ok (.newarray .long, 2) := by decide +kernel
theorem dX8_init_19 : decode cX8_init 19 = .ok (.putfield 13, 3) := by decide +kernel
theorem dX8_init_22 : decode cX8_init 22 = .ok (.aload_n 0, 1) := by decide +kernel
theorem dX8_init_23 : decode cX8_init 23 = .ok (.sipush 150, 3) := by decide +kernel
theorem dX8_init_26 : decode cX8_init 26 = .ok (.newarray .int, 2) := by decide +kernel
theorem dX8_init_28 : decode cX8_init 28 = .ok (.putfield 17, 3) := by decide +kernel
theorem dX8_init_31 : decode cX8_init 31 = .ok (.aload_n 0, 1) := by decide +kernel
theorem dX8_init_32 : decode cX8_init 32 = .ok (.sipush 150, 3) := by decide +kernel
theorem dX8_init_35 : decode cX8_init 35 = .ok (.newarray .int, 2) := by decide +kernel
theorem dX8_init_37 : decode cX8_init 37 = .ok (.putfield 21, 3) := by decide +kernel
theorem dX8_init_40 : decode cX8_init 40 = .ok (.aload_n 0, 1) := by decide +kernel
theorem dX8_init_41 : decode cX8_init 41 = .ok (.sipush 150, 3) := by decide +kernel
theorem dX8_init_44 : decode cX8_init 44 = .ok (.newarray .int, 2) := by decide +kernel
theorem dX8_init_46 : decode cX8_init 46 = .ok (.putfield 24, 3) := by decide +kernel
theorem dX8_init_49 : decode cX8_init 49 = .ok (.aload_n 0, 1) := by decide +kernel
theorem dX8_init_50 : decode cX8_init 50 = .ok (.sipush 150, 3) := by decide +kernel
theorem dX8_init_53 : decode cX8_init 53 = .ok (.newarray .int, 2) := by decide +kernel
theorem dX8_init_55 : decode cX8_init 55 = .ok (.putfield 27, 3) := by decide +kernel
theorem dX8_init_58 : decode cX8_init 58 = .ok (.aload_n 0, 1) := by decide +kernel
theorem dX8_init_59 : decode cX8_init 59 = .ok (.sipush 150, 3) := by decide +kernel
theorem dX8_init_62 : decode cX8_init 62 = .ok (.newarray .int, 2) := by decide +kernel
theorem dX8_init_64 : decode cX8_init 64 = .ok (.putfield 30, 3) := by decide +kernel
