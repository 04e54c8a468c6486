theorem dX0_partOfToday_18 : decode cX0_partOfToday 18 = .ok (.invokestatic 31, 3) := by decide +kernel
theorem dX0_partOfToday_21 : decode cX0_partOfToday 21 = .ok (.if_icmp .lt 16, 3) := by decide +kernel
theorem dX0_partOfToday_24 : decode cX0_partOfToday 24 = .ok (.iload_n 3, 1) := by decide +kernel
theorem dX0_partOfToday_25 : decode cX0_partOfToday 25 = .ok (.iload_n 2, 1) := by decide +kernel
theorem dX0_partOfToday_26 : decode cX0_partOfToday 26 = .ok (.invokestatic 31, 3) := by decide +kernel
theorem dX0_partOfToday_29 : decode cX0_partOfToday 29 = .ok (.isub, 1) := by decide +kernel
theorem dX0_partOfToday_30 : decode cX0_partOfToday 30 = .ok (.istore_n 3, 1) := by decide +kernel
theorem dX0_partOfToday_31 : decode cX0_partOfToday 31 = .ok (.iinc 2 1, 3) := by decide +kernel
theorem dX0_partOfToday_34 : decode cX0_partOfToday 34 = .ok (.goto (-25), 3) := by decide +kernel
theorem dX0_partOfToday_37 : decode cX0_partOfToday 37 = .ok (.iconst 1, 1) := by decide +kernel
theorem dX0_partOfToday_38 : decode cX0_partOfToday 38 = .ok (.istore 4, 2) := by decide +kernel
theorem dX0_partOfToday_40 : decode cX0_partOfToday 40 = .ok (.iload 4, 2) := by decide +kernel
theorem dX0_partOfToday_42 : decode cX0_partOfToday 42 = .ok (.bipush 12, 2) := by decide +kernel
theorem dX0_partOfToday_44 : decode cX0_partOfToday 44 = .ok (.if_icmp .ge 28, 3) := by decide +kernel
theorem dX0_partOfToday_47 : decode cX0_partOfToday 47 = .ok (.iload_n 3, 1) := by decide +kernel
theorem dX0_partOfToday_48 : decode cX0_partOfToday 48 = .ok (.iload_n 2, 1) := by decide +kernel
theorem dX0_partOfToday_49 : decode cX0_partOfToday 49 = .ok (.iload 4, 2) := by decide +kernel
theorem dX0_partOfToday_51 : decode cX0_partOfToday 51 = .ok (.invokestatic 34, 3) := by decide +kernel
theorem dX0_partOfToday_54 : decode cX0_partOfToday 54 = .ok (.if_icmp .lt 18, 3) := by decide +kernel
theorem dX0_partOfToday_57 : decode cX0_partOfToday 57 = .ok (.iload_n 3, 1) := by decide +kernel
theorem dX0_partOfToday_58 : decode cX0_partOfToday 58 = .ok (.iload_n 2, 1) := by decide +kernel
theorem dX0_partOfToday_59 : decode cX0_partOfToday 59 = .ok (.iload 4, 2) := by decide +kernel
theorem dX0_partOfToday_61 : decode cX0_partOfToday 61 = .ok (.invokestatic 34, 3) := by decide +kernel
theorem dX0_partOfToday_64 : decode cX0_partOfToday 64 = .ok (.isub, 1) := by decide +kernel
theorem dX0_partOfToday_65 : decode cX0_partOfToday 65 = .ok (.istore_n 3, 1) := by decide +kernel
theorem dX0_partOfToday_66 : decode cX0_partOfToday 66 = .ok (.iinc 4 1, 3) := by decide +kernel
theorem dX0_partOfToday_69 : decode cX0_partOfToday 69 = .ok (.goto (-29), 3) := by decide +kernel
theorem dX0_partOfToday_72 : decode cX0_partOfToday 72 = .ok (.iload_n 1, 1) := by decide +kernel
theorem dX0_partOfToday_73 : decode cX0_partOfToday 73 = .ok (.tableswitch 48 0 3 #[31, 33, 36, 40], 31) := by decide +kernel
theorem dX0_partOfToday_104 : decode cX0_partOfToday 104 = .ok (.iload_n 2, 1) := by decide +kernel
theorem dX0_partOfToday_105 : decode cX0_partOfToday 105 = .ok (.ireturn, 1) := by decide +kernel
theorem dX0_partOfToday_106 : decode cX0_partOfToday 106 = .ok (.iload 4, 2) := by decide +kernel
theorem dX0_partOfToday_108 : decode cX0_partOfToday 108 = .ok (.ireturn, 1) := by decide +kernel
theorem dX0_partOfToday_109 : decode cX0_partOfToday 109 = .ok (.iload_n 3, 1) := by decide +kernel
theorem dX0_partOfToday_110 : decode cX0_partOfToday 110 = .ok (.iconst 1, 1) := by decide +kernel
theorem dX0_partOfToday_111 : decode cX0_partOfToday 111 = .ok (.iadd, 1) := by decide +kernel
theorem dX0_partOfToday_112 : decode cX0_partOfToday 112 = .ok (.ireturn, 1) := by decide +kernel
theorem dX0_partOfToday_113 : decode cX0_partOfToday 113 = .ok (.aload_n 0, 1) := by decide +kernel
theorem dX0_partOfToday_114 : decode cX0_partOfToday 114 = .ok (.getfield 15, 3) := by decide +kernel
theorem dX0_partOfToday_117 : decode cX0_partOfToday 117 = .ok (.invokestatic 19, 3) := by decide +kernel
theorem dX0_partOfToday_120 : decode cX0_partOfToday 120 = .ok (.ireturn, 1) := by decide +kernel
theorem dX0_partOfToday_121 : decode cX0_partOfToday 121 = .ok (.aload_n 0, 1) := by decide +kernel
theorem dX0_partOfToday_122 : decode cX0_partOfToday 122 = .ok (.getfield 15, 3) := by decide +kernel
theorem dX0_partOfToday_125 : decode cX0_partOfToday 125 = .ok (.ireturn, 1) := by decide +kernel
theorem dX0_isLeap_0 : decode cX0_isLeap 0 = .ok (.iload_n 0, 1) := by decide +kernel
theorem dX0_isLeap_1 : decode cX0_isLeap 1 = .ok (.iconst 4, 1) := by decide +kernel
theorem dX0_isLeap_2 : decode cX0_isLeap 2 = .ok (.irem, 1) := by decide +kernel
theorem dX0_isLeap_3 : decode cX0_isLeap 3 = .ok (.ifCond .ne 22, 3) := by decide +kernel
theorem dX0_isLeap_6 : decode cX0_isLeap 6 = .ok (.iload_n 0, 1) := by decide +kernel
theorem dX0_isLeap_7 : decode cX0_isLeap 7 = .ok (.bipush 100, 2) := by decide +kernel
theorem dX0_isLeap_9 : decode cX0_isLeap 9 = .ok (.irem, 1) := by decide +kernel
theorem dX0_isLeap_10 : decode cX0_isLeap 10 = .ok (.ifCond .ne 11, 3) := by decide +kernel
theorem dX0_isLeap_13 : decode cX0_isLeap 13 = .ok (.iload_n 0, 1) := by decide +kernel
theorem dX0_isLeap_14 : decode cX0_isLeap 14 = .ok (.sipush 400, 3) := by decide +kernel
theorem dX0_isLeap_17 : decode cX0_isLeap 17 = .ok (.irem, 1) := by decide +kernel
theorem dX0_isLeap_18 : decode cX0_isLeap 18 = .ok (.ifCond .ne 7, 3) := by decide +kernel
theorem dX0_isLeap_21 : decode cX0_isLeap 21 = .ok (.iconst 1, 1) := by decide +kernel
theorem dX0_isLeap_22 : decode cX0_isLeap 22 = .ok (.goto 4, 3) := by decide +kernel
theorem dX0_isLeap_25 : decode cX0_isLeap 25 = .ok (.iconst 0, 1) := by decide +kernel
theorem dX0_isLeap_26 : decode cX0_isLeap 26 = .ok (.ireturn, 1) := by decide +kernel
theorem dX0_yearLength_0 : decode cX0_yearLength 0 = .ok (.iload_n 0, 1) := by decide +kernel
theorem dX0_yearLength_1 : decode cX0_yearLength 1 = .ok (.invokestatic 38, 3) := by decide +kernel
theorem dX0_yearLength_4 : decode cX0_yearLength 4 = .ok (.ifCond .eq 9, 3) := by decide +kernel
theorem dX0_yearLength_7 : decode cX0_yearLength 7 = .ok (.sipush 366, 3) := by decide +kernel
theorem dX0_yearLength_10 : decode cX0_yearLength 10 = .ok (.goto 6, 3) := by decide +kernel
theorem dX0_yearLength_13 : decode cX0_yearLength 13 = .ok (.sipush 365, 3) := by decide +kernel
theorem dX0_yearLength_16 : decode cX0_yearLength 16 = .ok (.ireturn, 1) := by decide +kernel
theorem dX0_monthLength_0 : decode cX0_monthLength 0 = .ok (.iload_n 1, 1) := by decide +kernel
theorem dX0_monthLength_1 : decode cX0_monthLength 1 = .ok (.iconst 1, 1) := by decide +kernel
theorem dX0_monthLength_2 : decode cX0_monthLength 2 = .ok (.if_icmp .lt 9, 3) := by decide +kernel
theorem dX0_monthLength_5 : decode cX0_monthLength 5 = .ok (.iload_n 1, 1) := by decide +kernel
theorem dX0_monthLength_6 : decode cX0_monthLength 6 = .ok (.bipush 12, 2) := by decide +kernel
theorem dX0_monthLength_8 : decode cX0_monthLength 8 = .ok (.if_icmp .le 5, 3) := by decide +kernel
theorem dX0_monthLength_11 : decode cX0_monthLength 11 = .ok (.iconst 0, 1) := by decide +kernel
theorem dX0_monthLength_12 : decode cX0_monthLength 12 = .ok (.ireturn, 1) := by decide +kernel
theorem dX0_monthLength_13 : decode cX0_monthLength 13 = .ok (.iload_n 1, 1) := by decide +kernel
theorem dX0_monthLength_14 : decode cX0_monthLength 14 = .ok (.iconst 2, 1) := by decide +kernel
theorem dX0_monthLength_15 : decode cX0_monthLength 15 = .ok (.if_icmp .ne 15, 3) := by decide +kernel
theorem dX0_monthLength_18 : decode cX0_monthLength 18 = .ok (.iload_n 0, 1) := by decide +kernel
theorem dX0_monthLength_19 : decode cX0_monthLength 19 = .ok (.invokestatic 38, 3) := by decide +kernel
theorem dX0_monthLength_22 : decode cX0_monthLength 22 = .ok (.ifCond .eq 8, 3) := by decide +kernel
theorem dX0_monthLength_25 : decode cX0_monthLength 25 = .ok (.bipush 29, 2) := by decide +kernel
theorem dX0_monthLength_27 : decode cX0_monthLength 27 = .ok (.goto 10, 3) := by decide +kernel
theorem dX0_monthLength_30 : decode cX0_monthLength 30 = .ok (.getstatic 41, 3) := by decide +kernel
theorem dX0_monthLength_33 : decode cX0_monthLength 33 = .ok (.iload_n 1, 1) := by decide +kernel
theorem dX0_monthLength_34 : decode cX0_monthLength 34 = .ok (.iconst 1, 1) := by decide +kernel
theorem dX0_monthLength_35 : decode cX0_monthLength 35 = .ok (.isub, 1) := by decide +kernel
theorem dX0_monthLength_36 : decode cX0_monthLength 36 = .ok (.iaload, 1) := by decide +kernel
theorem dX0_monthLength_37 : decode cX0_monthLength 37 = .ok (.ireturn, 1) := by decide +kernel
theorem dX1_init_0 : decode cX1_init 0 = .ok (.aload_n 0, 1) := by decide +kernel
theorem dX1_init_1 : decode cX1_init 1 = .ok (.invokespecial 1, 3) := by decide +kernel
theorem dX1_init_4 : decode cX1_init 4 = .ok (.aload_n 0, 1) := by decide +kernel
theorem dX1_init_5 : decode cX1_init 5 = .ok (.new 7, 3) := by decide +kernel
theorem dX1_init_8 : decode cX1_init 8 = .ok (.dup, 1) := by decide +kernel
theorem dX1_init_9 : decode cX1_init 9 = .ok (.invokespecial 9, 3) := by decide +kernel
theorem dX1_init_12 : decode cX1_init 12 = .ok (.putfield 10, 3) := by decide +kernel
theorem dX1_init_15 : decode cX1_init 15 = .ok (.return_, 1) := by decide +kernel
theorem dX1_size_0 : decode cX1_size 0 = .ok (.aload_n 0, 1) := by decide +kernel
theorem dX1_size_1 : decode cX1_size 1 = .ok (.getfield 10, 3) := by decide +kernel
theorem dX1_size_4 : decode cX1_size 4 = .ok (.invokevirtual 16, 3) := by decide +kernel
theorem dX1_size_7 : decode cX1_size 7 = .ok (.ireturn, 1) := by decide +kernel
theorem dX1_isLedBy_0 : decode cX1_isLedBy 0 = .ok (.aload_n 0, 1) := by decide +kernel
theorem dX1_isLedBy_1 : decode cX1_isLedBy 1 = .ok (.getfield 10, 3) := by decide +kernel
theorem dX1_isLedBy_4 : decode cX1_isLedBy 4 = .ok (.invokevirtual 16, 3) := by decide +kernel
theorem dX1_isLedBy_7 : decode cX1_isLedBy 7 = .ok (.ifCond .le 19, 3) := by decide +kernel
theorem dX1_isLedBy_10 : decode cX1_isLedBy 10 = .ok (.aload_n 0, 1) := by decide +kernel
theorem dX1_isLedBy_11 : decode cX1_isLedBy 11 = .ok (.getfield 10, 3) := by decide +kernel
theorem dX1_isLedBy_14 : decode cX1_isLedBy 14 = .ok (.iconst 0, 1) := by decide +kernel
theorem dX1_isLedBy_15 : decode cX1_isLedBy 15 = .ok (.invokevirtual 20, 3) := by decide +kernel
theorem dX1_isLedBy_18 : decode cX1_isLedBy 18 = .ok (.aload_n 1, 1) := by decide +kernel
theorem dX1_isLedBy_19 : decode cX1_isLedBy 19 = .ok (.if_acmp .ne 7, 3) := by decide +kernel
theorem dX1_isLedBy_22 : decode cX1_isLedBy 22 = .ok (.iconst 1, 1) := by decide +kernel
theorem dX1_isLedBy_23 : decode cX1_isLedBy 23 = .ok (.goto 4, 3) := by decide +kernel
theorem dX1_isLedBy_26 : decode cX1_isLedBy 26 = .ok (.iconst 0, 1) := by decide +kernel
theorem dX1_isLedBy_27 : decode cX1_isLedBy 27 = .ok (.ireturn, 1) := by decide +kernel
theorem dX1_takeIn_0 : decode cX1_takeIn 0 = .ok (.aload_n 0, 1) := by decide +kernel
theorem dX1_takeIn_1 : decode cX1_takeIn 1 = .ok (.getfield 10, 3) := by decide +kernel
theorem dX1_takeIn_4 : decode cX1_takeIn 4 = .ok (.invokevirtual 16, 3) := by decide +kernel
theorem dX1_takeIn_7 : decode cX1_takeIn 7 = .ok (.istore_n 2, 1) := by decide +kernel
theorem dX1_takeIn_8 : decode cX1_takeIn 8 = .ok (.iload_n 2, 1) := by decide +kernel
theorem dX1_takeIn_9 : decode cX1_takeIn 9 = .ok (.ifCond .le 32, 3) := by decide +kernel
theorem dX1_takeIn_12 : decode cX1_takeIn 12 = .ok (.aload_n 0, 1) := by decide +kernel
theorem dX1_takeIn_13 : decode cX1_takeIn 13 = .ok (.getfield 10, 3) := by decide +kernel
theorem dX1_takeIn_16 : decode cX1_takeIn 16 = .ok (.iload_n 2, 1) := by decide +kernel
theorem dX1_takeIn_17 : decode cX1_takeIn 17 = .ok (.iconst 1, 1) := by decide +kernel
theorem dX1_takeIn_18 : decode cX1_takeIn 18 = .ok (.isub, 1) := by decide +kernel
theorem dX1_takeIn_19 : decode cX1_takeIn 19 = .ok (.invokevirtual 20, 3) := by decide +kernel
theorem dX1_takeIn_22 : decode cX1_takeIn 22 = .ok (.checkcast 24, 3) := by decide +kernel
theorem dX1_takeIn_25 : decode cX1_takeIn 25 = .ok (.getfield 26, 3) := by decide +kernel
theorem dX1_takeIn_28 : decode cX1_takeIn 28 = .ok (.aload_n 1, 1) := by decide +kernel
theorem dX1_takeIn_29 : decode cX1_takeIn 29 = .ok (.getfield 26, 3) := by decide +kernel
theorem dX1_takeIn_32 : decode cX1_takeIn 32 = .ok (.if_icmp .le 9, 3) := by decide +kernel
theorem dX1_takeIn_35 : decode cX1_takeIn 35 = .ok (.iinc 2 (-1), 3) := by decide +kernel
theorem dX1_takeIn_38 : decode cX1_takeIn 38 = .ok (.goto (-30), 3) := by decide +kernel
theorem dX1_takeIn_41 : decode cX1_takeIn 41 = .ok (.aload_n 0, 1) := by decide +kernel
theorem dX1_takeIn_42 : decode cX1_takeIn 42 = .ok (.getfield 10, 3) := by decide +kernel
theorem dX1_takeIn_45 : decode cX1_takeIn 45 = .ok (.iload_n 2, 1) := by decide +kernel
theorem dX1_takeIn_46 : decode cX1_takeIn 46 = .ok (.aload_n 1, 1) := by decide +kernel
theorem dX1_takeIn_47 : decode cX1_takeIn 47 = .ok (.invokevirtual 30, 3) := by decide +kernel
theorem dX1_takeIn_50 : decode cX1_takeIn 50 = .ok (.aload_n 1, 1) := by decide +kernel
theorem dX1_takeIn_51 : decode cX1_takeIn 51 = .ok (.aload_n 0, 1) := by decide +kernel
theorem dX1_takeIn_52 : decode cX1_takeIn 52 = .ok (.putfield 34, 3) := by decide +kernel
theorem dX1_takeIn_55 : decode cX1_takeIn 55 = .ok (.return_, 1) := by decide +kernel
theorem dX1_absorb_0 : decode cX1_absorb 0 = .ok (.iconst 0, 1) := by decide +kernel
theorem dX1_absorb_1 : decode cX1_absorb 1 = .ok (.istore_n 2, 1) := by decide +kernel
theorem dX1_absorb_2 : decode cX1_absorb 2 = .ok (.iload_n 2, 1) := by decide +kernel
theorem dX1_absorb_3 : decode cX1_absorb 3 = .ok (.aload_n 1, 1) := by decide +kernel
theorem dX1_absorb_4 : decode cX1_absorb 4 = .ok (.getfield 10, 3) := by decide +kernel
theorem dX1_absorb_7 : decode cX1_absorb 7 = .ok (.invokevirtual 16, 3) := by decide +kernel
theorem dX1_absorb_10 : decode cX1_absorb 10 = .ok (.if_icmp .ge 24, 3) := by decide +kernel
theorem dX1_absorb_13 : decode cX1_absorb 13 = .ok (.aload_n 0, 1) := by decide +kernel
theorem dX1_absorb_14 : decode cX1_absorb 14 = .ok (.aload_n 1, 1) := by decide +kernel
theorem dX1_absorb_15 : decode cX1_absorb 15 = .ok (.getfield 10, 3) := by decide +kernel
theorem dX1_absorb_18 : decode cX1_absorb 18 = .ok (.iload_n 2, 1) := by decide +kernel
theorem dX1_absorb_19 : decode cX1_absorb 19 = .ok (.invokevirtual 20, 3) := by decide +kernel
theorem dX1_absorb_22 : decode cX1_absorb 22 = .ok (.checkcast 24, 3) := by decide +kernel
theorem dX1_absorb_25 : decode cX1_absorb 25 = .ok (.invokevirtual 38, 3) := by decide +kernel
theorem dX1_absorb_28 : decode cX1_absorb 28 = .ok (.iinc 2 1, 3) := by decide +kernel
theorem dX1_absorb_31 : decode cX1_absorb 31 = .ok (.goto (-29), 3) := by decide +kernel
theorem dX1_absorb_34 : decode cX1_absorb 34 = .ok (.aload_n 1, 1) := by decide +kernel
theorem dX1_absorb_35 : decode cX1_absorb 35 = .ok (.getfield 10, 3) := by decide +kernel
theorem dX1_absorb_38 : decode cX1_absorb 38 = .ok (.invokevirtual 42, 3) := by decide +kernel
theorem dX1_absorb_41 : decode cX1_absorb 41 = .ok (.return_, 1) := by decide +kernel
theorem dX1_drop_0 : decode cX1_drop 0 = .ok (.iconst 0, 1) := by decide +kernel
theorem dX1_drop_1 : decode cX1_drop 1 = .ok (.istore_n 2, 1) := by decide +kernel
theorem dX1_drop_2 : decode cX1_drop 2 = .ok (.iload_n 2, 1) := by decide +kernel
theorem dX1_drop_3 : decode cX1_drop 3 = .ok (.aload_n 0, 1) := by decide +kernel
theorem dX1_drop_4 : decode cX1_drop 4 = .ok (.getfield 10, 3) := by decide +kernel
theorem dX1_drop_7 : decode cX1_drop 7 = .ok (.invokevirtual 16, 3) := by decide +kernel
theorem dX1_drop_10 : decode cX1_drop 10 = .ok (.if_icmp .ge 33, 3) := by decide +kernel
theorem dX1_drop_13 : decode cX1_drop 13 = .ok (.aload_n 0, 1) := by decide +kernel
theorem dX1_drop_14 : decode cX1_drop 14 = .ok (.getfield 10, 3) := by decide +kernel
theorem dX1_drop_17 : decode cX1_drop 17 = .ok (.iload_n 2, 1) := by decide +kernel
theorem dX1_drop_18 : decode cX1_drop 18 = .ok (.invokevirtual 20, 3) := by decide +kernel
theorem dX1_drop_21 : decode cX1_drop 21 = .ok (.aload_n 1, 1) := by decide +kernel
theorem dX1_drop_22 : decode cX1_drop 22 = .ok (.if_acmp .ne 15, 3) := by decide +kernel
theorem dX1_drop_25 : decode cX1_drop 25 = .ok (.aload_n 0, 1) := by decide +kernel
theorem dX1_drop_26 : decode cX1_drop 26 = .ok (.getfield 10, 3) := by decide +kernel
theorem dX1_drop_29 : decode cX1_drop 29 = .ok (.iload_n 2, 1) := by decide +kernel
theorem dX1_drop_30 : decode cX1_drop 30 = .ok (.invokevirtual 45, 3) := by decide +kernel
theorem dX1_drop_33 : decode cX1_drop 33 = .ok (.pop, 1) := by decide +kernel
theorem dX1_drop_34 : decode cX1_drop 34 = .ok (.goto 9, 3) := by decide +kernel
theorem dX1_drop_37 : decode cX1_drop 37 = .ok (.iinc 2 1, 3) := by decide +kernel
theorem dX1_drop_40 : decode cX1_drop 40 = .ok (.goto (-38), 3) := by decide +kernel
theorem dX1_drop_43 : decode cX1_drop 43 = .ok (.return_, 1) := by decide +kernel
theorem dX1_isReady_0 : decode cX1_isReady 0 = .ok (.iconst 0, 1) := by decide +kernel
theorem dX1_isReady_1 : decode cX1_isReady 1 = .ok (.istore_n 2, 1) := by decide +kernel
theorem dX1_isReady_2 : decode cX1_isReady 2 = .ok (.iload_n 2, 1) := by decide +kernel
theorem dX1_isReady_3 : decode cX1_isReady 3 = .ok (.aload_n 0, 1) := by decide +kernel
theorem dX1_isReady_4 : decode cX1_isReady 4 = .ok (.getfield 10, 3) := by decide +kernel
theorem dX1_isReady_7 : decode cX1_isReady 7 = .ok (.invokevirtual 16, 3) := by decide +kernel
theorem dX1_isReady_10 : decode cX1_isReady 10 = .ok (.if_icmp .ge 29, 3) := by decide +kernel
theorem dX1_isReady_13 : decode cX1_isReady 13 = .ok (.aload_n 0, 1) := by decide +kernel
theorem dX1_isReady_14 : decode cX1_isReady 14 = .ok (.getfield 10, 3) := by decide +kernel
theorem dX1_isReady_17 : decode cX1_isReady 17 = .ok (.iload_n 2, 1) := by decide +kernel
theorem dX1_isReady_18 : decode cX1_isReady 18 = .ok (.invokevirtual 20, 3) := by decide +kernel
theorem dX1_isReady_21 : decode cX1_isReady 21 = .ok (.checkcast 24, 3) := by decide +kernel
theorem dX1_isReady_24 : decode cX1_isReady 24 = .ok (.iload_n 1, 1) := by decide +kernel
theorem dX1_isReady_25 : decode cX1_isReady 25 = .ok (.invokevirtual 48, 3) := by decide +kernel
theorem dX1_isReady_28 : decode cX1_isReady 28 = .ok (.ifCond .ne 5, 3) := by decide +kernel
theorem dX1_isReady_31 : decode cX1_isReady 31 = .ok (.iconst 0, 1) := by decide +kernel
theorem dX1_isReady_32 : decode cX1_isReady 32 = .ok (.ireturn, 1) := by decide +kernel
theorem dX1_isReady_33 : decode cX1_isReady 33 = .ok (.iinc 2 1, 3) := by decide +kernel
theorem dX1_isReady_36 : decode cX1_isReady 36 = .ok (.goto (-34), 3) := by decide +kernel
theorem dX1_isReady_39 : decode cX1_isReady 39 = .ok (.iconst 1, 1) := by decide +kernel
theorem dX1_isReady_40 : decode cX1_isReady 40 = .ok (.ireturn, 1) := by decide +kernel
theorem dX1_priority_0 : decode cX1_priority 0 = .ok (.iconst 0, 1) := by decide +kernel
theorem dX1_priority_1 : decode cX1_priority 1 = .ok (.istore_n 1, 1) := by decide +kernel
theorem dX1_priority_2 : decode cX1_priority 2 = .ok (.iconst 0, 1) := by decide +kernel
theorem dX1_priority_3 : decode cX1_priority 3 = .ok (.istore_n 2, 1) := by decide +kernel
theorem dX1_priority_4 : decode cX1_priority 4 = .ok (.iload_n 2, 1) := by decide +kernel
theorem dX1_priority_5 : decode cX1_priority 5 = .ok (.aload_n 0, 1) := by decide +kernel
theorem dX1_priority_6 : decode cX1_priority 6 = .ok (.getfield 10, 3) := by decide +kernel
theorem dX1_priority_9 : decode cX1_priority 9 = .ok (.invokevirtual 16, 3) := by decide +kernel
theorem dX1_priority_12 : decode cX1_priority 12 = .ok (.if_icmp .ge 28, 3) := by decide +kernel
theorem dX1_priority_15 : decode cX1_priority 15 = .ok (.iload_n 1, 1) := by decide +kernel
theorem dX1_priority_16 : decode cX1_priority 16 = .ok (.aload_n 0, 1) := by decide +kernel
theorem dX1_priority_17 : decode cX1_priority 17 = .ok (.getfield 10, 3) := by decide +kernel
theorem dX1_priority_20 : decode cX1_priority 20 = .ok (.iload_n 2, 1) := by decide +kernel
theorem dX1_priority_21 : decode cX1_priority 21 = .ok (.invokevirtual 20, 3) := by decide +kernel
theorem dX1_priority_24 : decode cX1_priority 24 = .ok (.checkcast 24, 3) := by decide +kernel
theorem dX1_priority_27 : decode cX1_priority 27 = .ok (.getfield 52, 3) := by decide +kernel
theorem dX1_priority_30 : decode cX1_priority 30 = .ok (.invokestatic 55, 3) := by decide +kernel
theorem dX1_priority_33 : decode cX1_priority 33 = .ok (.istore_n 1, 1) := by decide +kernel
theorem dX1_priority_34 : decode cX1_priority 34 = .ok (.iinc 2 1, 3) := by decide +kernel
theorem dX1_priority_37 : decode cX1_priority 37 = .ok (.goto (-33), 3) := by decide +kernel
theorem dX1_priority_40 : decode cX1_priority 40 = .ok (.iload_n 1, 1) := by decide +kernel
theorem dX1_priority_41 : decode cX1_priority 41 = .ok (.ireturn, 1) := by decide +kernel
theorem dX1_changeOf_0 : decode cX1_changeOf 0 = .ok (.lconst 0, 1) := by decide +kernel
theorem dX1_changeOf_1 : decode cX1_changeOf 1 = .ok (.lstore_n 3, 1) := by decide +kernel
theorem dX1_changeOf_2 : decode cX1_changeOf 2 = .ok (.iconst 0, 1) := by decide +kernel
theorem dX1_changeOf_3 : decode cX1_changeOf 3 = .ok (.istore 5, 2) := by decide +kernel
theorem dX1_changeOf_5 : decode cX1_changeOf 5 = .ok (.iload 5, 2) := by decide +kernel
theorem dX1_changeOf_7 : decode cX1_changeOf 7 = .ok (.aload_n 0, 1) := by decide +kernel
theorem dX1_changeOf_8 : decode cX1_changeOf 8 = .ok (.getfield 10, 3) := by decide +kernel
theorem dX1_changeOf_11 : decode cX1_changeOf 11 = .ok (.invokevirtual 16, 3) := by decide +kernel
theorem dX1_changeOf_14 : decode cX1_changeOf 14 = .ok (.if_icmp .ge 29, 3) := by decide +kernel
theorem dX1_changeOf_17 : decode cX1_changeOf 17 = .ok (.lload_n 3, 1) := by decide +kernel
theorem dX1_changeOf_18 : decode cX1_changeOf 18 = .ok (.aload_n 0, 1) := by decide +kernel
theorem dX1_changeOf_19 : decode cX1_changeOf 19 = .ok (.getfield 10, 3) := by decide +kernel
theorem dX1_changeOf_22 : decode cX1_changeOf 22 = .ok (.iload 5, 2) := by decide +kernel
theorem dX1_changeOf_24 : decode cX1_changeOf 24 = .ok (.invokevirtual 20, 3) := by decide +kernel
theorem dX1_changeOf_27 : decode cX1_changeOf 27 = .ok (.checkcast 24, 3) := by decide +kernel
theorem dX1_changeOf_30 : decode cX1_changeOf 30 = .ok (.iload_n 1, 1) := by decide +kernel
theorem dX1_changeOf_31 : decode cX1_changeOf 31 = .ok (.iload_n 2, 1) := by decide +kernel
theorem dX1_changeOf_32 : decode cX1_changeOf 32 = .ok (.invokevirtual 61, 3) := by decide +kernel
theorem dX1_changeOf_35 : decode cX1_changeOf 35 = .ok (.ladd, 1) := by decide +kernel
theorem dX1_changeOf_36 : decode cX1_changeOf 36 = .ok (.lstore_n 3, 1) := by decide +kernel
theorem dX1_changeOf_37 : decode cX1_changeOf 37 = .ok (.iinc 5 1, 3) := by decide +kernel
theorem dX1_changeOf_40 : decode cX1_changeOf 40 = .ok (.goto (-35), 3) := by decide +kernel
theorem dX1_changeOf_43 : decode cX1_changeOf 43 = .ok (.lload_n 3, 1) := by decide +kernel
theorem dX1_changeOf_44 : decode cX1_changeOf 44 = .ok (.lreturn, 1) := by decide +kernel
theorem dX2_init_0 : decode cX2_init 0 = .ok (.aload_n 0, 1) := by decide +kernel
theorem dX2_init_1 : decode cX2_init 1 = .ok (.invokespecial 3, 3) := by decide +kernel
theorem dX2_init_4 : decode cX2_init 4 = .ok (.aload_n 0, 1) := by decide +kernel
theorem dX2_init_5 : decode cX2_init 5 = .ok (.sipush 6000, 3) := by decide +kernel
theorem dX2_init_8 : decode cX2_init 8 = .ok (.newarray .int, 2) := by decide +kernel
theorem dX2_init_10 : decode cX2_init 10 = .ok (.putfield 11, 3) := by decide +kernel
theorem dX2_init_13 : decode cX2_init 13 = .ok (.aload_n 0, 1) := by decide +kernel
theorem dX2_init_14 : decode cX2_init 14 = .ok (.iconst 0, 1) := by decide +kernel
theorem dX2_init_15 : decode cX2_init 15 = .ok (.putfield 15, 3) := by decide +kernel
theorem dX2_init_18 : decode cX2_init 18 = .ok (.return_, 1) := by decide +kernel
theorem dX2_write_0 : decode cX2_write 0 = .ok (.aload_n 0, 1) := by decide +kernel
theorem dX2_write_1 : decode cX2_write 1 = .ok (.getfield 15, 3) := by decide +kernel
theorem dX2_write_4 : decode cX2_write 4 = .ok (.sipush 1500, 3) := by decide +kernel
theorem dX2_write_7 : decode cX2_write 7 = .ok (.if_icmp .ge 68, 3) := by decide +kernel
theorem dX2_write_10 : decode cX2_write 10 = .ok (.aload_n 0, 1) := by decide +kernel
theorem dX2_write_11 : decode cX2_write 11 = .ok (.getfield 11, 3) := by decide +kernel
theorem dX2_write_14 : decode cX2_write 14 = .ok (.aload_n 0, 1) := by decide +kernel
theorem dX2_write_15 : decode cX2_write 15 = .ok (.getfield 15, 3) := by decide +kernel
theorem dX2_write_18 : decode cX2_write 18 = .ok (.iconst 4, 1) := by decide +kernel
theorem dX2_write_19 : decode cX2_write 19 = .ok (.imul, 1) := by decide +kernel
theorem dX2_write_20 : decode cX2_write 20 = .ok (.iload_n 1, 1) := by decide +kernel
theorem dX2_write_21 : decode cX2_write 21 = .ok (.iastore, 1) := by decide +kernel
theorem dX2_write_22 : decode cX2_write 22 = .ok (.aload_n 0, 1) := by decide +kernel
theorem dX2_write_23 : decode cX2_write 23 = .ok (.getfield 11, 3) := by decide +kernel
theorem dX2_write_26 : decode cX2_write 26 = .ok (.aload_n 0, 1) := by decide +kernel
theorem dX2_write_27 : decode cX2_write 27 = .ok (.getfield 15, 3) := by decide +kernel
theorem dX2_write_30 : decode cX2_write 30 = .ok (.iconst 4, 1) := by decide +kernel
theorem dX2_write_31 : decode cX2_write 31 = .ok (.imul, 1) := by decide +kernel
theorem dX2_write_32 : decode cX2_write 32 = .ok (.iconst 1, 1) := by decide +kernel
theorem dX2_write_33 : decode cX2_write 33 = .ok (.iadd, 1) := by decide +kernel
theorem dX2_write_34 : decode cX2_write 34 = .ok (.iload_n 2, 1) := by decide +kernel
theorem dX2_write_35 : decode cX2_write 35 = .ok (.iastore, 1) := by decide +kernel
theorem dX2_write_36 : decode cX2_write 36 = .ok (.aload_n 0, 1) := by decide +kernel
theorem dX2_write_37 : decode cX2_write 37 = .ok (.getfield 11, 3) := by decide +kernel
theorem dX2_write_40 : decode cX2_write 40 = .ok (.aload_n 0, 1) := by decide +kernel
theorem dX2_write_41 : decode cX2_write 41 = .ok (.getfield 15, 3) := by decide +kernel
theorem dX2_write_44 : decode cX2_write 44 = .ok (.iconst 4, 1) := by decide +kernel
theorem dX2_write_45 : decode cX2_write 45 = .ok (.imul, 1) := by decide +kernel
theorem dX2_write_46 : decode cX2_write 46 = .ok (.iconst 2, 1) := by decide +kernel
theorem dX2_write_47 : decode cX2_write 47 = .ok (.iadd, 1) := by decide +kernel
theorem dX2_write_48 : decode cX2_write 48 = .ok (.iload_n 3, 1) := by decide +kernel
theorem dX2_write_49 : decode cX2_write 49 = .ok (.iastore, 1) := by decide +kernel
theorem dX2_write_50 : decode cX2_write 50 = .ok (.aload_n 0, 1) := by decide +kernel
theorem dX2_write_51 : decode cX2_write 51 = .ok (.getfield 11, 3) := by decide +kernel
theorem dX2_write_54 : decode cX2_write 54 = .ok (.aload_n 0, 1) := by decide +kernel
theorem dX2_write_55 : decode cX2_write 55 = .ok (.getfield 15, 3) := by decide +kernel
theorem dX2_write_58 : decode cX2_write 58 = .ok (.iconst 4, 1) := by decide +kernel
theorem dX2_write_59 : decode cX2_write 59 = .ok (.imul, 1) := by decide +kernel
theorem dX2_write_60 : decode cX2_write 60 = .ok (.iconst 3, 1) := by decide +kernel
theorem dX2_write_61 : decode cX2_write 61 = .ok (.iadd, 1) := by decide +kernel
theorem dX2_write_62 : decode cX2_write 62 = .ok (.iload 4, 2) := by decide +kernel
theorem dX2_write_64 : decode cX2_write 64 = .ok (.iastore, 1) := by decide +kernel
theorem dX2_write_65 : decode cX2_write 65 = .ok (.aload_n 0, 1) := by decide +kernel
theorem dX2_write_66 : decode cX2_write 66 = .ok (.dup, 1) := by decide +kernel
theorem dX2_write_67 : decode cX2_write 67 = .ok (.getfield 15, 3) := by decide +kernel
theorem dX2_write_70 : decode cX2_write 70 = .ok (.iconst 1, 1) := by decide +kernel
theorem dX2_write_71 : decode cX2_write 71 = .ok (.iadd, 1) := by decide +kernel
theorem dX2_write_72 : decode cX2_write 72 = .ok (.putfield 15, 3) := by decide +kernel
theorem dX2_write_75 : decode cX2_write 75 = .ok (.return_, 1) := by decide +kernel
theorem dX2_read_0 : decode cX2_read 0 = .ok (.iload_n 1, 1) := by decide +kernel
theorem dX2_read_1 : decode cX2_read 1 = .ok (.ifCond .lt 20, 3) := by decide +kernel
theorem dX2_read_4 : decode cX2_read 4 = .ok (.iload_n 1, 1) := by decide +kernel
theorem dX2_read_5 : decode cX2_read 5 = .ok (.aload_n 0, 1) := by decide +kernel
theorem dX2_read_6 : decode cX2_read 6 = .ok (.getfield 15, 3) := by decide +kernel
theorem dX2_read_9 : decode cX2_read 9 = .ok (.if_icmp .ge 12, 3) := by decide +kernel
theorem dX2_read_12 : decode cX2_read 12 = .ok (.iload_n 2, 1) := by decide +kernel
theorem dX2_read_13 : decode cX2_read 13 = .ok (.ifCond .lt 8, 3) := by decide +kernel
theorem dX2_read_16 : decode cX2_read 16 = .ok (.iload_n 2, 1) := by decide +kernel
theorem dX2_read_17 : decode cX2_read 17 = .ok (.iconst 4, 1) := by decide +kernel
theorem dX2_read_18 : decode cX2_read 18 = .ok (.if_icmp .lt 5, 3) := by decide +kernel
theorem dX2_read_21 : decode cX2_read 21 = .ok (.iconst (-1), 1) := by decide +kernel
theorem dX2_read_22 : decode cX2_read 22 = .ok (.ireturn, 1) := by decide +kernel
theorem dX2_read_23 : decode cX2_read 23 = .ok (.aload_n 0, 1) := by decide +kernel
theorem dX2_read_24 : decode cX2_read 24 = .ok (.getfield 11, 3) := by decide +kernel
theorem dX2_read_27 : decode cX2_read 27 = .ok (.iload_n 1, 1) := by decide +kernel
theorem dX2_read_28 : decode cX2_read 28 = .ok (.iconst 4, 1) := by decide +kernel
theorem dX2_read_29 : decode cX2_read 29 = .ok (.imul, 1) := by decide +kernel
theorem dX2_read_30 : decode cX2_read 30 = .ok (.iload_n 2, 1) := by decide +kernel
theorem dX2_read_31 : decode cX2_read 31 = .ok (.iadd, 1) := by decide +kernel
theorem dX2_read_32 : decode cX2_read 32 = .ok (.iaload, 1) := by decide +kernel
theorem dX2_read_33 : decode cX2_read 33 = .ok (.ireturn, 1) := by decide +kernel
theorem dX3_init_0 : decode cX3_init 0 = .ok (.aload_n 0, 1) := by decide +kernel
theorem dX3_init_1 : decode cX3_init 1 = .ok (.invokespecial 1, 3) := by decide +kernel
theorem dX3_init_4 : decode cX3_init 4 = .ok (.aload_n 0, 1) := by decide +kernel
theorem dX3_init_5 : decode cX3_init 5 = .ok (.iconst 0, 1) := by decide +kernel
theorem dX3_init_6 : decode cX3_init 6 = .ok (.putfield 7, 3) := by decide +kernel
theorem dX3_init_9 : decode cX3_init 9 = .ok (.aload_n 0, 1) := by decide +kernel
theorem dX3_init_10 : decode cX3_init 10 = .ok (.iconst 0, 1) := by decide +kernel
theorem dX3_init_11 : decode cX3_init 11 = .ok (.putfield 13, 3) := by decide +kernel
theorem dX3_init_14 : decode cX3_init 14 = .ok (.return_, 1) := by decide +kernel
theorem dX4_init_0 : decode cX4_init 0 = .ok (.aload_n 0, 1) := by decide +kernel
theorem dX4_init_1 : decode cX4_init 1 = .ok (.invokespecial 1, 3) := by decide +kernel
theorem dX4_init_4 : decode cX4_init 4 = .ok (.aload_n 0, 1) := by decide +kernel
theorem dX4_init_5 : decode cX4_init 5 = .ok (.iload_n 1, 1) := by decide +kernel
theorem dX4_init_6 : decode cX4_init 6 = .ok (.putfield 7, 3) := by decide +kernel
theorem dX4_init_9 : decode cX4_init 9 = .ok (.aload_n 0, 1) := by decide +kernel
theorem dX4_init_10 : decode cX4_init 10 = .ok (.iload_n 2, 1) := by decide +kernel
theorem dX4_init_11 : decode cX4_init 11 = .ok (.putfield 13, 3) := by decide +kernel
theorem dX4_init_14 : decode cX4_init 14 = .ok (.aload_n 0, 1) := by decide +kernel
theorem dX4_init_15 : decode cX4_init 15 = .ok (.iload_n 3, 1) := by decide +kernel
theorem dX4_init_16 : decode cX4_init 16 = .ok (.putfield 16, 3) := by decide +kernel
theorem dX4_init_19 : decode cX4_init 19 = .ok (.aload_n 0, 1) := by decide +kernel
theorem dX4_init_20 : decode cX4_init 20 = .ok (.iload 4, 2) := by decide +kernel
theorem dX4_init_22 : decode cX4_init 22 = .ok (.putfield 19, 3) := by decide +kernel
theorem dX4_init_25 : decode cX4_init 25 = .ok (.aload_n 0, 1) := by decide +kernel
theorem dX4_init_26 : decode cX4_init 26 = .ok (.iload 5, 2) := by decide +kernel
theorem dX4_init_28 : decode cX4_init 28 = .ok (.putfield 22, 3) := by decide +kernel
theorem dX4_init_31 : decode cX4_init 31 = .ok (.aload_n 0, 1) := by decide +kernel
theorem dX4_init_32 : decode cX4_init 32 = .ok (.iload 6, 2) := by decide +kernel
theorem dX4_init_34 : decode cX4_init 34 = .ok (.putfield 25, 3) := by decide +kernel
theorem dX4_init_37 : decode cX4_init 37 = .ok (.aload_n 0, 1) := by decide +kernel
theorem dX4_init_38 : decode cX4_init 38 = .ok (.iload 7, 2) := by decide +kernel
theorem dX4_init_40 : decode cX4_init 40 = .ok (.putfield 28, 3) := by decide +kernel
theorem dX4_init_43 : decode cX4_init 43 = .ok (.return_, 1) := by decide +kernel
theorem dX4_isLike_0 : decode cX4_isLike 0 = .ok (.aload_n 0, 1) := by decide +kernel
theorem dX4_isLike_1 : decode cX4_isLike 1 = .ok (.getfield 7, 3) := by decide +kernel
theorem dX4_isLike_4 : decode cX4_isLike 4 = .ok (.aload_n 1, 1) := by decide +kernel
theorem dX4_isLike_5 : decode cX4_isLike 5 = .ok (.getfield 7, 3) := by decide +kernel
theorem dX4_isLike_8 : decode cX4_isLike 8 = .ok (.if_icmp .ne 73, 3) := by decide +kernel
theorem dX4_isLike_11 : decode cX4_isLike 11 = .ok (.aload_n 0, 1) := by decide +kernel
theorem dX4_isLike_12 : decode cX4_isLike 12 = .ok (.getfield 13, 3) := by decide +kernel
theorem dX4_isLike_15 : decode cX4_isLike 15 = .ok (.aload_n 1, 1) := by decide +kernel
theorem dX4_isLike_16 : decode cX4_isLike 16 = .ok (.getfield 13, 3) := by decide +kernel
theorem dX4_isLike_19 : decode cX4_isLike 19 = .ok (.if_icmp .ne 62, 3) := by decide +kernel
theorem dX4_isLike_22 : decode cX4_isLike 22 = .ok (.aload_n 0, 1) := by decide +kernel
theorem dX4_isLike_23 : decode cX4_isLike 23 = .ok (.getfield 16, 3) := by decide +kernel
theorem dX4_isLike_26 : decode cX4_isLike 26 = .ok (.aload_n 1, 1) := by decide +kernel
theorem dX4_isLike_27 : decode cX4_isLike 27 = .ok (.getfield 16, 3) := by decide +kernel
theorem dX4_isLike_30 : decode cX4_isLike 30 = .ok (.if_icmp .ne 51, 3) := by decide +kernel
theorem dX4_isLike_33 : decode cX4_isLike 33 = .ok (.aload_n 0, 1) := by decide +kernel
theorem dX4_isLike_34 : decode cX4_isLike 34 = .ok (.getfield 19, 3) := by decide +kernel
theorem dX4_isLike_37 : decode cX4_isLike 37 = .ok (.aload_n 1, 1) := by decide +kernel
theorem dX4_isLike_38 : decode cX4_isLike 38 = .ok (.getfield 19, 3) := by decide +kernel
theorem dX4_isLike_41 : decode cX4_isLike 41 = .ok (.if_icmp .ne 40, 3) := by decide +kernel
theorem dX4_isLike_44 : decode cX4_isLike 44 = .ok (.aload_n 0, 1) := by decide +kernel
theorem dX4_isLike_45 : decode cX4_isLike 45 = .ok (.getfield 22, 3) := by decide +kernel
theorem dX4_isLike_48 : decode cX4_isLike 48 = .ok (.aload_n 1, 1) := by decide +kernel
theorem dX4_isLike_49 : decode cX4_isLike 49 = .ok (.getfield 22, 3) := by decide +kernel
theorem dX4_isLike_52 : decode cX4_isLike 52 = .ok (.if_icmp .ne 29, 3) := by decide +kernel
theorem dX4_isLike_55 : decode cX4_isLike 55 = .ok (.aload_n 0, 1) := by decide +kernel
theorem dX4_isLike_56 : decode cX4_isLike 56 = .ok (.getfield 25, 3) := by decide +kernel
theorem dX4_isLike_59 : decode cX4_isLike 59 = .ok (.aload_n 1, 1) := by decide +kernel
theorem dX4_isLike_60 : decode cX4_isLike 60 = .ok (.getfield 25, 3) := by decide +kernel
theorem dX4_isLike_63 : decode cX4_isLike 63 = .ok (.if_icmp .ne 18, 3) := by decide +kernel
theorem dX4_isLike_66 : decode cX4_isLike 66 = .ok (.aload_n 0, 1) := by decide +kernel
theorem dX4_isLike_67 : decode cX4_isLike 67 = .ok (.getfield 28, 3) := by decide +kernel
theorem dX4_isLike_70 : decode cX4_isLike 70 = .ok (.aload_n 1, 1) := by decide +kernel
theorem dX4_isLike_71 : decode cX4_isLike 71 = .ok (.getfield 28, 3) := by decide +kernel
theorem dX4_isLike_74 : decode cX4_isLike 74 = .ok (.if_icmp .ne 7, 3) := by decide +kernel
theorem dX4_isLike_77 : decode cX4_isLike 77 = .ok (.iconst 1, 1) := by decide +kernel
theorem dX4_isLike_78 : decode cX4_isLike 78 = .ok (.goto 4, 3) := by decide +kernel
theorem dX4_isLike_81 : decode cX4_isLike 81 = .ok (.iconst 0, 1) := by decide +kernel
theorem dX4_isLike_82 : decode cX4_isLike 82 = .ok (.ireturn, 1) := by decide +kernel
theorem dX5_init_0 : decode cX5_init 0 = .ok (.aload_n 0, 1) := by decide +kernel
theorem dX5_init_1 : decode cX5_init 1 = .ok (.invokespecial 3, 3) := by decide +kernel
theorem dX5_init_4 : decode cX5_init 4 = .ok (.aload_n 0, 1) := by decide +kernel
theorem dX5_init_5 : decode cX5_init 5 = .ok (.new 9, 3) := by decide +kernel
theorem dX5_init_8 : decode cX5_init 8 = .ok (.dup, 1) := by decide +kernel
theorem dX5_init_9 : decode cX5_init 9 = .ok (.invokespecial 11, 3) := by decide +kernel
theorem dX5_init_12 : decode cX5_init 12 = .ok (.putfield 12, 3) := by decide +kernel
theorem dX5_init_15 : decode cX5_init 15 = .ok (.aload_n 0, 1) := by decide +kernel
theorem dX5_init_16 : decode cX5_init 16 = .ok (.new 9, 3) := by decide +kernel
theorem dX5_init_19 : decode cX5_init 19 = .ok (.dup, 1) := by decide +kernel
theorem dX5_init_20 : decode cX5_init 20 = .ok (.invokespecial 11, 3) := by decide +kernel
theorem dX5_init_23 : decode cX5_init 23 = .ok (.putfield 18, 3) := by decide +kernel
theorem dX5_init_26 : decode cX5_init 26 = .ok (.aload_n 0, 1) := by decide +kernel
theorem dX5_init_27 : decode cX5_init 27 = .ok (.iconst 0, 1) := by decide +kernel
theorem dX5_init_28 : decode cX5_init 28 = .ok (.putfield 21, 3) := by decide +kernel
theorem dX5_init_31 : decode cX5_init 31 = .ok (.aload_n 0, 1) := by decide +kernel
theorem dX5_init_32 : decode cX5_init 32 = .ok (.iconst (-1), 1) := by decide +kernel
theorem dX5_init_33 : decode cX5_init 33 = .ok (.putfield 25, 3) := by decide +kernel
theorem dX5_init_36 : decode cX5_init 36 = .ok (.aload_n 0, 1) := by decide +kernel
theorem dX5_init_37 : decode cX5_init 37 = .ok (.iconst 0, 1) := by decide +kernel
theorem dX5_init_38 : decode cX5_init 38 = .ok (.putfield 28, 3) := by decide +kernel
theorem dX5_init_41 : decode cX5_init 41 = .ok (.aload_n 0, 1) := by decide +kernel
theorem dX5_init_42 : decode cX5_init 42 = .ok (.iconst 1, 1) := by decide +kernel
theorem dX5_init_43 : decode cX5_init 43 = .ok (.putfield 31, 3) := by decide +kernel
theorem dX5_init_46 : decode cX5_init 46 = .ok (.aload_n 0, 1) := by decide +kernel
theorem dX5_init_47 : decode cX5_init 47 = .ok (.iconst 0, 1) := by decide +kernel
theorem dX5_init_48 : decode cX5_init 48 = .ok (.putfield 34, 3) := by decide +kernel
theorem dX5_init_51 : decode cX5_init 51 = .ok (.aload_n 0, 1) := by decide +kernel
theorem dX5_init_52 : decode cX5_init 52 = .ok (.aconst_null, 1) := by decide +kernel
theorem dX5_init_53 : decode cX5_init 53 = .ok (.putfield 38, 3) := by decide +kernel
theorem dX5_init_56 : decode cX5_init 56 = .ok (.aload_n 0, 1) := by decide +kernel
theorem dX5_init_57 : decode cX5_init 57 = .ok (.iload_n 1, 1) := by decide +kernel
theorem dX5_init_58 : decode cX5_init 58 = .ok (.putfield 42, 3) := by decide +kernel
theorem dX5_init_61 : decode cX5_init 61 = .ok (.aload_n 0, 1) := by decide +kernel
theorem dX5_init_62 : decode cX5_init 62 = .ok (.iload_n 2, 1) := by decide +kernel
theorem dX5_init_63 : decode cX5_init 63 = .ok (.putfield 45, 3) := by decide +kernel
theorem dX5_init_66 : decode cX5_init 66 = .ok (.aload_n 0, 1) := by decide +kernel
theorem dX5_init_67 : decode cX5_init 67 = .ok (.aload_n 3, 1) := by decide +kernel
theorem dX5_init_68 : decode cX5_init 68 = .ok (.putfield 48, 3) := by decide +kernel
theorem dX5_init_71 : decode cX5_init 71 = .ok (.aload_n 0, 1) := by decide +kernel
theorem dX5_init_72 : decode cX5_init 72 = .ok (.aload_n 3, 1) := by decide +kernel
theorem dX5_init_73 : decode cX5_init 73 = .ok (.getfield 52, 3) := by decide +kernel
theorem dX5_init_76 : decode cX5_init 76 = .ok (.putfield 57, 3) := by decide +kernel
theorem dX5_init_79 : decode cX5_init 79 = .ok (.aload_n 0, 1) := by decide +kernel
theorem dX5_init_80 : decode cX5_init 80 = .ok (.aload_n 3, 1) := by decide +kernel
theorem dX5_init_81 : decode cX5_init 81 = .ok (.getfield 60, 3) := by decide +kernel
theorem dX5_init_84 : decode cX5_init 84 = .ok (.putfield 63, 3) := by decide +kernel
theorem dX5_init_87 : decode cX5_init 87 = .ok (.return_, 1) := by decide +kernel
theorem dX5_isOpen_0 : decode cX5_isOpen 0 = .ok (.aload_n 0, 1) := by decide +kernel
theorem dX5_isOpen_1 : decode cX5_isOpen 1 = .ok (.getfield 21, 3) := by decide +kernel
theorem dX5_isOpen_4 : decode cX5_isOpen 4 = .ok (.ifCond .eq 11, 3) := by decide +kernel
theorem dX5_isOpen_7 : decode cX5_isOpen 7 = .ok (.aload_n 0, 1) := by decide +kernel
theorem dX5_isOpen_8 : decode cX5_isOpen 8 = .ok (.getfield 21, 3) := by decide +kernel
theorem dX5_isOpen_11 : decode cX5_isOpen 11 = .ok (.iconst 1, 1) := by decide +kernel
theorem dX5_isOpen_12 : decode cX5_isOpen 12 = .ok (.if_icmp .ne 7, 3) := by decide +kernel
theorem dX5_isOpen_15 : decode cX5_isOpen 15 = .ok (.iconst 1, 1) := by decide +kernel
theorem dX5_isOpen_16 : decode cX5_isOpen 16 = .ok (.goto 4, 3) := by decide +kernel
theorem dX5_isOpen_19 : decode cX5_isOpen 19 = .ok (.iconst 0, 1) := by decide +kernel
theorem dX5_isOpen_20 : decode cX5_isOpen 20 = .ok (.ireturn, 1) := by decide +kernel
theorem dX5_isFreeToSettle_0 : decode cX5_isFreeToSettle 0 = .ok (.aload_n 0, 1) := by decide +kernel
theorem dX5_isFreeToSettle_1 : decode cX5_isFreeToSettle 1 = .ok (.getfield 25, 3) := by decide +kernel
theorem dX5_isFreeToSettle_4 : decode cX5_isFreeToSettle 4 = .ok (.iload_n 1, 1) := by decide +kernel
theorem dX5_isFreeToSettle_5 : decode cX5_isFreeToSettle 5 = .ok (.if_icmp .gt 27, 3) := by decide +kernel
theorem dX5_isFreeToSettle_8 : decode cX5_isFreeToSettle 8 = .ok (.aload_n 0, 1) := by decide +kernel
theorem dX5_isFreeToSettle_9 : decode cX5_isFreeToSettle 9 = .ok (.getfield 12, 3) := by decide +kernel
theorem dX5_isFreeToSettle_12 : decode cX5_isFreeToSettle 12 = .ok (.getfield 66, 3) := by decide +kernel
theorem dX5_isFreeToSettle_15 : decode cX5_isFreeToSettle 15 = .ok (.ifCond .ne 17, 3) := by decide +kernel
theorem dX5_isFreeToSettle_18 : decode cX5_isFreeToSettle 18 = .ok (.aload_n 0, 1) := by decide +kernel
theorem dX5_isFreeToSettle_19 : decode cX5_isFreeToSettle 19 = .ok (.getfield 18, 3) := by decide +kernel
theorem dX5_isFreeToSettle_22 : decode cX5_isFreeToSettle 22 = .ok (.getfield 66, 3) := by decide +kernel
theorem dX5_isFreeToSettle_25 : decode cX5_isFreeToSettle 25 = .ok (.ifCond .ne 7, 3) := by decide +kernel
theorem dX5_isFreeToSettle_28 : decode cX5_isFreeToSettle 28 = .ok (.iconst 1, 1) := by decide +kernel
theorem dX5_isFreeToSettle_29 : decode cX5_isFreeToSettle 29 = .ok (.goto 4, 3) := by decide +kernel
theorem dX5_isFreeToSettle_32 : decode cX5_isFreeToSettle 32 = .ok (.iconst 0, 1) := by decide +kernel
theorem dX5_isFreeToSettle_33 : decode cX5_isFreeToSettle 33 = .ok (.ireturn, 1) := by decide +kernel
theorem dX5_bothWishToCancel_0 : decode cX5_bothWishToCancel 0 = .ok (.aload_n 0, 1) := by decide +kernel
theorem dX5_bothWishToCancel_1 : decode cX5_bothWishToCancel 1 = .ok (.getfield 12, 3) := by decide +kernel
theorem dX5_bothWishToCancel_4 : decode cX5_bothWishToCancel 4 = .ok (.getfield 69, 3) := by decide +kernel
theorem dX5_bothWishToCancel_7 : decode cX5_bothWishToCancel 7 = .ok (.ifCond .eq 17, 3) := by decide +kernel
theorem dX5_bothWishToCancel_10 : decode cX5_bothWishToCancel 10 = .ok (.aload_n 0, 1) := by decide +kernel
theorem dX5_bothWishToCancel_11 : decode cX5_bothWishToCancel 11 = .ok (.getfield 18, 3) := by decide +kernel
theorem dX5_bothWishToCancel_14 : decode cX5_bothWishToCancel 14 = .ok (.getfield 69, 3) := by decide +kernel
theorem dX5_bothWishToCancel_17 : decode cX5_bothWishToCancel 17 = .ok (.ifCond .eq 7, 3) := by decide +kernel
theorem dX5_bothWishToCancel_20 : decode cX5_bothWishToCancel 20 = .ok (.iconst 1, 1) := by decide +kernel
theorem dX5_bothWishToCancel_21 : decode cX5_bothWishToCancel 21 = .ok (.goto 4, 3) := by decide +kernel
theorem dX5_bothWishToCancel_24 : decode cX5_bothWishToCancel 24 = .ok (.iconst 0, 1) := by decide +kernel
theorem dX5_bothWishToCancel_25 : decode cX5_bothWishToCancel 25 = .ok (.ireturn, 1) := by decide +kernel
theorem dX5_end_0 : decode cX5_end 0 = .ok (.aload_n 0, 1) := by decide +kernel
theorem dX5_end_1 : decode cX5_end 1 = .ok (.iload_n 1, 1) := by decide +kernel
theorem dX5_end_2 : decode cX5_end 2 = .ok (.putfield 21, 3) := by decide +kernel
theorem dX5_end_5 : decode cX5_end 5 = .ok (.aload_n 0, 1) := by decide +kernel
theorem dX5_end_6 : decode cX5_end 6 = .ok (.getfield 38, 3) := by decide +kernel
theorem dX5_end_9 : decode cX5_end 9 = .ok (.ifnull 16, 3) := by decide +kernel
theorem dX5_end_12 : decode cX5_end 12 = .ok (.aload_n 0, 1) := by decide +kernel
theorem dX5_end_13 : decode cX5_end 13 = .ok (.getfield 38, 3) := by decide +kernel
theorem dX5_end_16 : decode cX5_end 16 = .ok (.aload_n 0, 1) := by decide +kernel
theorem dX5_end_17 : decode cX5_end 17 = .ok (.invokevirtual 72, 3) := by decide +kernel
theorem dX5_end_20 : decode cX5_end 20 = .ok (.aload_n 0, 1) := by decide +kernel
theorem dX5_end_21 : decode cX5_end 21 = .ok (.aconst_null, 1) := by decide +kernel
theorem dX5_end_22 : decode cX5_end 22 = .ok (.putfield 38, 3) := by decide +kernel
theorem dX5_end_25 : decode cX5_end 25 = .ok (.return_, 1) := by decide +kernel
theorem dX5_change_0 : decode cX5_change 0 = .ok (.lconst 0, 1) := by decide +kernel
theorem dX5_change_1 : decode cX5_change 1 = .ok (.lstore_n 3, 1) := by decide +kernel
theorem dX5_change_2 : decode cX5_change 2 = .ok (.iload_n 2, 1) := by decide +kernel
theorem dX5_change_3 : decode cX5_change 3 = .ok (.iconst (-1), 1) := by decide +kernel
theorem dX5_change_4 : decode cX5_change 4 = .ok (.if_icmp .ne 52, 3) := by decide +kernel
theorem dX5_change_7 : decode cX5_change 7 = .ok (.lload_n 3, 1) := by decide +kernel
theorem dX5_change_8 : decode cX5_change 8 = .ok (.iload_n 1, 1) := by decide +kernel
theorem dX5_change_9 : decode cX5_change 9 = .ok (.aload_n 0, 1) := by decide +kernel
theorem dX5_change_10 : decode cX5_change 10 = .ok (.getfield 48, 3) := by decide +kernel
theorem dX5_change_13 : decode cX5_change 13 = .ok (.getfield 78, 3) := by decide +kernel
theorem dX5_change_16 : decode cX5_change 16 = .ok (.if_icmp .ne 11, 3) := by decide +kernel
theorem dX5_change_19 : decode cX5_change 19 = .ok (.aload_n 0, 1) := by decide +kernel
theorem dX5_change_20 : decode cX5_change 20 = .ok (.getfield 63, 3) := by decide +kernel
theorem dX5_change_23 : decode cX5_change 23 = .ok (.i2l, 1) := by decide +kernel
theorem dX5_change_24 : decode cX5_change 24 = .ok (.goto 4, 3) := by decide +kernel
theorem dX5_change_27 : decode cX5_change 27 = .ok (.lconst 0, 1) := by decide +kernel
theorem dX5_change_28 : decode cX5_change 28 = .ok (.ladd, 1) := by decide +kernel
theorem dX5_change_29 : decode cX5_change 29 = .ok (.lstore_n 3, 1) := by decide +kernel
theorem dX5_change_30 : decode cX5_change 30 = .ok (.lload_n 3, 1) := by decide +kernel
theorem dX5_change_31 : decode cX5_change 31 = .ok (.iload_n 1, 1) := by decide +kernel
theorem dX5_change_32 : decode cX5_change 32 = .ok (.aload_n 0, 1) := by decide +kernel
theorem dX5_change_33 : decode cX5_change 33 = .ok (.getfield 48, 3) := by decide +kernel
theorem dX5_change_36 : decode cX5_change 36 = .ok (.getfield 81, 3) := by decide +kernel
theorem dX5_change_39 : decode cX5_change 39 = .ok (.if_icmp .ne 11, 3) := by decide +kernel
theorem dX5_change_42 : decode cX5_change 42 = .ok (.aload_n 0, 1) := by decide +kernel
theorem dX5_change_43 : decode cX5_change 43 = .ok (.getfield 63, 3) := by decide +kernel
theorem dX5_change_46 : decode cX5_change 46 = .ok (.i2l, 1) := by decide +kernel
theorem dX5_change_47 : decode cX5_change 47 = .ok (.goto 4, 3) := by decide +kernel
theorem dX5_change_50 : decode cX5_change 50 = .ok (.lconst 0, 1) := by decide +kernel
theorem dX5_change_51 : decode cX5_change 51 = .ok (.lsub, 1) := by decide +kernel
theorem dX5_change_52 : decode cX5_change 52 = .ok (.lstore_n 3, 1) := by decide +kernel
theorem dX5_change_53 : decode cX5_change 53 = .ok (.goto 60, 3) := by decide +kernel
theorem dX5_change_56 : decode cX5_change 56 = .ok (.iload_n 2, 1) := by decide +kernel
theorem dX5_change_57 : decode cX5_change 57 = .ok (.aload_n 0, 1) := by decide +kernel
theorem dX5_change_58 : decode cX5_change 58 = .ok (.getfield 48, 3) := by decide +kernel
theorem dX5_change_61 : decode cX5_change 61 = .ok (.getfield 84, 3) := by decide +kernel
theorem dX5_change_64 : decode cX5_change 64 = .ok (.if_icmp .ne 49, 3) := by decide +kernel
theorem dX5_change_67 : decode cX5_change 67 = .ok (.lload_n 3, 1) := by decide +kernel
theorem dX5_change_68 : decode cX5_change 68 = .ok (.iload_n 1, 1) := by decide +kernel
theorem dX5_change_69 : decode cX5_change 69 = .ok (.aload_n 0, 1) := by decide +kernel
theorem dX5_change_70 : decode cX5_change 70 = .ok (.getfield 48, 3) := by decide +kernel
theorem dX5_change_73 : decode cX5_change 73 = .ok (.getfield 81, 3) := by decide +kernel
theorem dX5_change_76 : decode cX5_change 76 = .ok (.if_icmp .ne 11, 3) := by decide +kernel
theorem dX5_change_79 : decode cX5_change 79 = .ok (.aload_n 0, 1) := by decide +kernel
theorem dX5_change_80 : decode cX5_change 80 = .ok (.getfield 57, 3) := by decide +kernel
theorem dX5_change_83 : decode cX5_change 83 = .ok (.i2l, 1) := by decide +kernel
theorem dX5_change_84 : decode cX5_change 84 = .ok (.goto 4, 3) := by decide +kernel
theorem dX5_change_87 : decode cX5_change 87 = .ok (.lconst 0, 1) := by decide +kernel
theorem dX5_change_88 : decode cX5_change 88 = .ok (.ladd, 1) := by decide +kernel
theorem dX5_change_89 : decode cX5_change 89 = .ok (.lstore_n 3, 1) := by decide +kernel
theorem dX5_change_90 : decode cX5_change 90 = .ok (.lload_n 3, 1) := by decide +kernel
theorem dX5_change_91 : decode cX5_change 91 = .ok (.iload_n 1, 1) := by decide +kernel
theorem dX5_change_92 : decode cX5_change 92 = .ok (.aload_n 0, 1) := by decide +kernel
theorem dX5_change_93 : decode cX5_change 93 = .ok (.getfield 48, 3) := by decide +kernel
theorem dX5_change_96 : decode cX5_change 96 = .ok (.getfield 78, 3) := by decide +kernel
theorem dX5_change_99 : decode cX5_change 99 = .ok (.if_icmp .ne 11, 3) := by decide +kernel
theorem dX5_change_102 : decode cX5_change 102 = .ok (.aload_n 0, 1) := by decide +kernel
theorem dX5_change_103 : decode cX5_change 103 = .ok (.getfield 57, 3) := by decide +kernel
theorem dX5_change_106 : decode cX5_change 106 = .ok (.i2l, 1) := by decide +kernel
theorem dX5_change_107 : decode cX5_change 107 = .ok (.goto 4, 3) := by decide +kernel
theorem dX5_change_110 : decode cX5_change 110 = .ok (.lconst 0, 1) := by decide +kernel
theorem dX5_change_111 : decode cX5_change 111 = .ok (.lsub, 1) := by decide +kernel
theorem dX5_change_112 : decode cX5_change 112 = .ok (.lstore_n 3, 1) := by decide +kernel
theorem dX5_change_113 : decode cX5_change 113 = .ok (.lload_n 3, 1) := by decide +kernel
theorem dX5_change_114 : decode cX5_change 114 = .ok (.lreturn, 1) := by decide +kernel
theorem dX5_shareOfAmount_0 : decode cX5_shareOfAmount 0 = .ok (.aload_n 0, 1) := by decide +kernel
theorem dX5_shareOfAmount_1 : decode cX5_shareOfAmount 1 = .ok (.getfield 57, 3) := by decide +kernel
theorem dX5_shareOfAmount_4 : decode cX5_shareOfAmount 4 = .ok (.ifCond .le 21, 3) := by decide +kernel
theorem dX5_shareOfAmount_7 : decode cX5_shareOfAmount 7 = .ok (.aload_n 0, 1) := by decide +kernel
theorem dX5_shareOfAmount_8 : decode cX5_shareOfAmount 8 = .ok (.getfield 63, 3) := by decide +kernel
theorem dX5_shareOfAmount_11 : decode cX5_shareOfAmount 11 = .ok (.i2l, 1) := by decide +kernel
theorem dX5_shareOfAmount_12 : decode cX5_shareOfAmount 12 = .ok (.iload_n 1, 1) := by decide +kernel
theorem dX5_shareOfAmount_13 : decode cX5_shareOfAmount 13 = .ok (.i2l, 1) := by decide +kernel
theorem dX5_shareOfAmount_14 : decode cX5_shareOfAmount 14 = .ok (.lmul, 1) := by decide +kernel
theorem dX5_shareOfAmount_15 : decode cX5_shareOfAmount 15 = .ok (.aload_n 0, 1) := by decide +kernel
theorem dX5_shareOfAmount_16 : decode cX5_shareOfAmount 16 = .ok (.getfield 57, 3) := by decide +kernel
theorem dX5_shareOfAmount_19 : decode cX5_shareOfAmount 19 = .ok (.i2l, 1) := by decide +kernel
theorem dX5_shareOfAmount_20 : decode cX5_shareOfAmount 20 = .ok (.ldiv, 1) := by decide +kernel
theorem dX5_shareOfAmount_21 : decode cX5_shareOfAmount 21 = .ok (.l2i, 1) := by decide +kernel
theorem dX5_shareOfAmount_22 : decode cX5_shareOfAmount 22 = .ok (.goto 4, 3) := by decide +kernel
theorem dX5_shareOfAmount_25 : decode cX5_shareOfAmount 25 = .ok (.iconst 0, 1) := by decide +kernel
theorem dX5_shareOfAmount_26 : decode cX5_shareOfAmount 26 = .ok (.ireturn, 1) := by decide +kernel
theorem dX6_init_0 : decode cX6_init 0 = .ok (.aload_n 0, 1) := by decide +kernel
theorem dX6_init_1 : decode cX6_init 1 = .ok (.invokespecial 3, 3) := by decide +kernel
theorem dX6_init_4 : decode cX6_init 4 = .ok (.aload_n 0, 1) := by decide +kernel
theorem dX6_init_5 : decode cX6_init 5 = .ok (.bipush 16, 2) := by decide +kernel
theorem dX6_init_7 : decode cX6_init 7 = .ok (.bipush 9, 2) := by decide +kernel
theorem dX6_init_9 : decode cX6_init 9 = .ok (.multianewarray 9 2, 4) := by decide +kernel
theorem dX6_init_13 : decode cX6_init 13 = .ok (.putfield 11, 3) := by decide +kernel
theorem dX6_init_16 : decode cX6_init 16 = .ok (.aload_n 0, 1) := by decide +kernel
theorem dX6_init_17 : decode cX6_init 17 = .ok (.bipush 9, 2) := by decide +kernel
theorem dX6_init_19 : decode cX6_init 19 = .ok (.newarray .long, 2) := by decide +kernel
theorem dX6_init_21 : decode cX6_init 21 = .ok (.putfield 16, 3) := by decide +kernel
theorem dX6_init_24 : decode cX6_init 24 = .ok (.return_, 1) := by decide +kernel
