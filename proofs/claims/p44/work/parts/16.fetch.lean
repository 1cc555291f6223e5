theorem fX0_clear_0 : fet (cdT 0) 0 = some (.aload_n 0, 0, 0) := by decide +kernel
theorem fX0_clear_1 : fet (cdT 0) 1 = some (.iconst 0, 0, 0) := by decide +kernel
theorem fX0_clear_2 : fet (cdT 0) 2 = some (.putfield 18, 0, 0) := by decide +kernel
theorem fX0_clear_5 : fet (cdT 0) 5 = some (.aload_n 0, 0, 0) := by decide +kernel
theorem fX0_clear_6 : fet (cdT 0) 6 = some (.iconst 0, 0, 0) := by decide +kernel
theorem fX0_clear_7 : fet (cdT 0) 7 = some (.putfield 22, 0, 1) := by decide +kernel
theorem fX0_clear_10 : fet (cdT 0) 10 = some (.iconst 0, 0, 0) := by decide +kernel
theorem fX0_clear_11 : fet (cdT 0) 11 = some (.istore_n 1, 0, 0) := by decide +kernel
theorem fX0_clear_12 : fet (cdT 0) 12 = some (.iload_n 1, 0, 0) := by decide +kernel
theorem fX0_clear_13 : fet (cdT 0) 13 = some (.bipush 8, 0, 0) := by decide +kernel
theorem fX0_clear_15 : fet (cdT 0) 15 = some (.if_icmp .ge 16, 0, 0) := by decide +kernel
theorem fX0_clear_18 : fet (cdT 0) 18 = some (.aload_n 0, 0, 0) := by decide +kernel
theorem fX0_clear_19 : fet (cdT 0) 19 = some (.getfield 9, 0, 2) := by decide +kernel
theorem fX0_clear_22 : fet (cdT 0) 22 = some (.iload_n 1, 0, 0) := by decide +kernel
theorem fX0_clear_23 : fet (cdT 0) 23 = some (.iconst 0, 0, 0) := by decide +kernel
theorem fX0_clear_24 : fet (cdT 0) 24 = some (.iastore, 0, 0) := by decide +kernel
theorem fX0_clear_25 : fet (cdT 0) 25 = some (.iinc 1 1, 0, 0) := by decide +kernel
theorem fX0_clear_28 : fet (cdT 0) 28 = some (.goto (-16), 0, 0) := by decide +kernel
theorem fX0_clear_31 : fet (cdT 0) 31 = some (.aload_n 0, 0, 0) := by decide +kernel
theorem fX0_clear_32 : fet (cdT 0) 32 = some (.iconst 0, 0, 0) := by decide +kernel
theorem fX0_clear_33 : fet (cdT 0) 33 = some (.putfield 25, 0, 4) := by decide +kernel
theorem fX0_clear_36 : fet (cdT 0) 36 = some (.return_, 0, 0) := by decide +kernel
theorem fX0_copyFrom_0 : fet (cdT 1) 0 = some (.aload_n 0, 0, 0) := by decide +kernel
theorem fX0_copyFrom_1 : fet (cdT 1) 1 = some (.aload_n 1, 0, 0) := by decide +kernel
theorem fX0_copyFrom_2 : fet (cdT 1) 2 = some (.getfield 18, 0, 0) := by decide +kernel
theorem fX0_copyFrom_5 : fet (cdT 1) 5 = some (.putfield 18, 0, 0) := by decide +kernel
theorem fX0_copyFrom_8 : fet (cdT 1) 8 = some (.aload_n 0, 0, 0) := by decide +kernel
theorem fX0_copyFrom_9 : fet (cdT 1) 9 = some (.aload_n 1, 0, 0) := by decide +kernel
theorem fX0_copyFrom_10 : fet (cdT 1) 10 = some (.getfield 22, 0, 1) := by decide +kernel
theorem fX0_copyFrom_13 : fet (cdT 1) 13 = some (.putfield 22, 0, 1) := by decide +kernel
theorem fX0_copyFrom_16 : fet (cdT 1) 16 = some (.aload_n 1, 0, 0) := by decide +kernel
theorem fX0_copyFrom_17 : fet (cdT 1) 17 = some (.getfield 9, 0, 2) := by decide +kernel
theorem fX0_copyFrom_20 : fet (cdT 1) 20 = some (.iconst 0, 0, 0) := by decide +kernel
theorem fX0_copyFrom_21 : fet (cdT 1) 21 = some (.aload_n 0, 0, 0) := by decide +kernel
theorem fX0_copyFrom_22 : fet (cdT 1) 22 = some (.getfield 9, 0, 2) := by decide +kernel
theorem fX0_copyFrom_25 : fet (cdT 1) 25 = some (.iconst 0, 0, 0) := by decide +kernel
theorem fX0_copyFrom_26 : fet (cdT 1) 26 = some (.bipush 8, 0, 0) := by decide +kernel
theorem fX0_copyFrom_28 : fet (cdT 1) 28 = some (.invokestatic 28, 0, 4) := by decide +kernel
theorem fX0_copyFrom_31 : fet (cdT 1) 31 = some (.aload_n 1, 0, 0) := by decide +kernel
theorem fX0_copyFrom_32 : fet (cdT 1) 32 = some (.getfield 15, 0, 3) := by decide +kernel
theorem fX0_copyFrom_35 : fet (cdT 1) 35 = some (.iconst 0, 0, 0) := by decide +kernel
theorem fX0_copyFrom_36 : fet (cdT 1) 36 = some (.aload_n 0, 0, 0) := by decide +kernel
theorem fX0_copyFrom_37 : fet (cdT 1) 37 = some (.getfield 15, 0, 3) := by decide +kernel
theorem fX0_copyFrom_40 : fet (cdT 1) 40 = some (.iconst 0, 0, 0) := by decide +kernel
theorem fX0_copyFrom_41 : fet (cdT 1) 41 = some (.bipush 8, 0, 0) := by decide +kernel
theorem fX0_copyFrom_43 : fet (cdT 1) 43 = some (.invokestatic 28, 0, 4) := by decide +kernel
theorem fX0_copyFrom_46 : fet (cdT 1) 46 = some (.aload_n 0, 0, 0) := by decide +kernel
theorem fX0_copyFrom_47 : fet (cdT 1) 47 = some (.aload_n 1, 0, 0) := by decide +kernel
theorem fX0_copyFrom_48 : fet (cdT 1) 48 = some (.getfield 25, 0, 4) := by decide +kernel
theorem fX0_copyFrom_51 : fet (cdT 1) 51 = some (.putfield 25, 0, 4) := by decide +kernel
theorem fX0_copyFrom_54 : fet (cdT 1) 54 = some (.return_, 0, 0) := by decide +kernel
theorem fX0_timesInRow_0 : fet (cdT 2) 0 = some (.iconst 0, 0, 0) := by decide +kernel
theorem fX0_timesInRow_1 : fet (cdT 2) 1 = some (.istore_n 2, 0, 0) := by decide +kernel
theorem fX0_timesInRow_2 : fet (cdT 2) 2 = some (.iconst 0, 0, 0) := by decide +kernel
theorem fX0_timesInRow_3 : fet (cdT 2) 3 = some (.istore_n 3, 0, 0) := by decide +kernel
theorem fX0_timesInRow_4 : fet (cdT 2) 4 = some (.iload_n 3, 0, 0) := by decide +kernel
theorem fX0_timesInRow_5 : fet (cdT 2) 5 = some (.aload_n 0, 0, 0) := by decide +kernel
theorem fX0_timesInRow_6 : fet (cdT 2) 6 = some (.getfield 25, 0, 4) := by decide +kernel
theorem fX0_timesInRow_9 : fet (cdT 2) 9 = some (.if_icmp .ge 22, 0, 0) := by decide +kernel
theorem fX0_timesInRow_12 : fet (cdT 2) 12 = some (.aload_n 0, 0, 0) := by decide +kernel
theorem fX0_timesInRow_13 : fet (cdT 2) 13 = some (.getfield 15, 0, 3) := by decide +kernel
theorem fX0_timesInRow_16 : fet (cdT 2) 16 = some (.iload_n 3, 0, 0) := by decide +kernel
theorem fX0_timesInRow_17 : fet (cdT 2) 17 = some (.iaload, 0, 0) := by decide +kernel
theorem fX0_timesInRow_18 : fet (cdT 2) 18 = some (.iload_n 1, 0, 0) := by decide +kernel
theorem fX0_timesInRow_19 : fet (cdT 2) 19 = some (.if_icmp .ne 6, 0, 0) := by decide +kernel
theorem fX0_timesInRow_22 : fet (cdT 2) 22 = some (.iinc 2 1, 0, 0) := by decide +kernel
theorem fX0_timesInRow_25 : fet (cdT 2) 25 = some (.iinc 3 1, 0, 0) := by decide +kernel
theorem fX0_timesInRow_28 : fet (cdT 2) 28 = some (.goto (-24), 0, 0) := by decide +kernel
theorem fX0_timesInRow_31 : fet (cdT 2) 31 = some (.iload_n 2, 0, 0) := by decide +kernel
theorem fX0_timesInRow_32 : fet (cdT 2) 32 = some (.ireturn, 0, 0) := by decide +kernel
theorem fX0_enterRow_0 : fet (cdT 3) 0 = some (.iconst 0, 0, 0) := by decide +kernel
theorem fX0_enterRow_1 : fet (cdT 3) 1 = some (.istore_n 2, 0, 0) := by decide +kernel
theorem fX0_enterRow_2 : fet (cdT 3) 2 = some (.iload_n 2, 0, 0) := by decide +kernel
theorem fX0_enterRow_3 : fet (cdT 3) 3 = some (.aload_n 0, 0, 0) := by decide +kernel
theorem fX0_enterRow_4 : fet (cdT 3) 4 = some (.getfield 25, 0, 4) := by decide +kernel
theorem fX0_enterRow_7 : fet (cdT 3) 7 = some (.if_icmp .ge 20, 0, 0) := by decide +kernel
theorem fX0_enterRow_10 : fet (cdT 3) 10 = some (.aload_n 0, 0, 0) := by decide +kernel
theorem fX0_enterRow_11 : fet (cdT 3) 11 = some (.getfield 15, 0, 3) := by decide +kernel
theorem fX0_enterRow_14 : fet (cdT 3) 14 = some (.iload_n 2, 0, 0) := by decide +kernel
theorem fX0_enterRow_15 : fet (cdT 3) 15 = some (.iaload, 0, 0) := by decide +kernel
theorem fX0_enterRow_16 : fet (cdT 3) 16 = some (.iload_n 1, 0, 0) := by decide +kernel
theorem fX0_enterRow_17 : fet (cdT 3) 17 = some (.if_icmp .ne 4, 0, 0) := by decide +kernel
theorem fX0_enterRow_20 : fet (cdT 3) 20 = some (.return_, 0, 0) := by decide +kernel
theorem fX0_enterRow_21 : fet (cdT 3) 21 = some (.iinc 2 1, 0, 0) := by decide +kernel
theorem fX0_enterRow_24 : fet (cdT 3) 24 = some (.goto (-22), 0, 0) := by decide +kernel
theorem fX0_enterRow_27 : fet (cdT 3) 27 = some (.aload_n 0, 0, 0) := by decide +kernel
theorem fX0_enterRow_28 : fet (cdT 3) 28 = some (.getfield 25, 0, 4) := by decide +kernel
theorem fX0_enterRow_31 : fet (cdT 3) 31 = some (.bipush 8, 0, 0) := by decide +kernel
theorem fX0_enterRow_33 : fet (cdT 3) 33 = some (.if_icmp .ge 23, 0, 0) := by decide +kernel
theorem fX0_enterRow_36 : fet (cdT 3) 36 = some (.aload_n 0, 0, 0) := by decide +kernel
theorem fX0_enterRow_37 : fet (cdT 3) 37 = some (.getfield 15, 0, 3) := by decide +kernel
theorem fX0_enterRow_40 : fet (cdT 3) 40 = some (.aload_n 0, 0, 0) := by decide +kernel
theorem fX0_enterRow_41 : fet (cdT 3) 41 = some (.getfield 25, 0, 4) := by decide +kernel
theorem fX0_enterRow_44 : fet (cdT 3) 44 = some (.iload_n 1, 0, 0) := by decide +kernel
theorem fX0_enterRow_45 : fet (cdT 3) 45 = some (.iastore, 0, 0) := by decide +kernel
theorem fX0_enterRow_46 : fet (cdT 3) 46 = some (.aload_n 0, 0, 0) := by decide +kernel
theorem fX0_enterRow_47 : fet (cdT 3) 47 = some (.dup, 0, 0) := by decide +kernel
theorem fX0_enterRow_48 : fet (cdT 3) 48 = some (.getfield 25, 0, 4) := by decide +kernel
theorem fX0_enterRow_51 : fet (cdT 3) 51 = some (.iconst 1, 0, 0) := by decide +kernel
theorem fX0_enterRow_52 : fet (cdT 3) 52 = some (.iadd, 0, 0) := by decide +kernel
theorem fX0_enterRow_53 : fet (cdT 3) 53 = some (.putfield 25, 0, 4) := by decide +kernel
theorem fX0_enterRow_56 : fet (cdT 3) 56 = some (.return_, 0, 0) := by decide +kernel
theorem fX0_leaveRow_0 : fet (cdT 4) 0 = some (.iconst 0, 0, 0) := by decide +kernel
theorem fX0_leaveRow_1 : fet (cdT 4) 1 = some (.istore_n 2, 0, 0) := by decide +kernel
theorem fX0_leaveRow_2 : fet (cdT 4) 2 = some (.iconst 0, 0, 0) := by decide +kernel
theorem fX0_leaveRow_3 : fet (cdT 4) 3 = some (.istore_n 3, 0, 0) := by decide +kernel
theorem fX0_leaveRow_4 : fet (cdT 4) 4 = some (.iload_n 3, 0, 0) := by decide +kernel
theorem fX0_leaveRow_5 : fet (cdT 4) 5 = some (.aload_n 0, 0, 0) := by decide +kernel
theorem fX0_leaveRow_6 : fet (cdT 4) 6 = some (.getfield 25, 0, 4) := by decide +kernel
theorem fX0_leaveRow_9 : fet (cdT 4) 9 = some (.if_icmp .ge 34, 0, 0) := by decide +kernel
theorem fX0_leaveRow_12 : fet (cdT 4) 12 = some (.aload_n 0, 0, 0) := by decide +kernel
theorem fX0_leaveRow_13 : fet (cdT 4) 13 = some (.getfield 15, 0, 3) := by decide +kernel
theorem fX0_leaveRow_16 : fet (cdT 4) 16 = some (.iload_n 3, 0, 0) := by decide +kernel
theorem fX0_leaveRow_17 : fet (cdT 4) 17 = some (.iaload, 0, 0) := by decide +kernel
theorem fX0_leaveRow_18 : fet (cdT 4) 18 = some (.iload_n 1, 0, 0) := by decide +kernel
theorem fX0_leaveRow_19 : fet (cdT 4) 19 = some (.if_icmp .eq 18, 0, 0) := by decide +kernel
theorem fX0_leaveRow_22 : fet (cdT 4) 22 = some (.aload_n 0, 0, 0) := by decide +kernel
theorem fX0_leaveRow_23 : fet (cdT 4) 23 = some (.getfield 15, 0, 3) := by decide +kernel
theorem fX0_leaveRow_26 : fet (cdT 4) 26 = some (.iload_n 2, 0, 0) := by decide +kernel
theorem fX0_leaveRow_27 : fet (cdT 4) 27 = some (.aload_n 0, 0, 0) := by decide +kernel
theorem fX0_leaveRow_28 : fet (cdT 4) 28 = some (.getfield 15, 0, 3) := by decide +kernel
theorem fX0_leaveRow_31 : fet (cdT 4) 31 = some (.iload_n 3, 0, 0) := by decide +kernel
theorem fX0_leaveRow_32 : fet (cdT 4) 32 = some (.iaload, 0, 0) := by decide +kernel
theorem fX0_leaveRow_33 : fet (cdT 4) 33 = some (.iastore, 0, 0) := by decide +kernel
theorem fX0_leaveRow_34 : fet (cdT 4) 34 = some (.iinc 2 1, 0, 0) := by decide +kernel
theorem fX0_leaveRow_37 : fet (cdT 4) 37 = some (.iinc 3 1, 0, 0) := by decide +kernel
theorem fX0_leaveRow_40 : fet (cdT 4) 40 = some (.goto (-36), 0, 0) := by decide +kernel
theorem fX0_leaveRow_43 : fet (cdT 4) 43 = some (.aload_n 0, 0, 0) := by decide +kernel
theorem fX0_leaveRow_44 : fet (cdT 4) 44 = some (.iload_n 2, 0, 0) := by decide +kernel
theorem fX0_leaveRow_45 : fet (cdT 4) 45 = some (.putfield 25, 0, 4) := by decide +kernel
theorem fX0_leaveRow_48 : fet (cdT 4) 48 = some (.aload_n 0, 0, 0) := by decide +kernel
theorem fX0_leaveRow_49 : fet (cdT 4) 49 = some (.dup, 0, 0) := by decide +kernel
theorem fX0_leaveRow_50 : fet (cdT 4) 50 = some (.getfield 22, 0, 1) := by decide +kernel
theorem fX0_leaveRow_53 : fet (cdT 4) 53 = some (.iconst 1, 0, 0) := by decide +kernel
theorem fX0_leaveRow_54 : fet (cdT 4) 54 = some (.iload_n 1, 0, 0) := by decide +kernel
theorem fX0_leaveRow_55 : fet (cdT 4) 55 = some (.ishl, 0, 0) := by decide +kernel
theorem fX0_leaveRow_56 : fet (cdT 4) 56 = some (.iconst (-1), 0, 0) := by decide +kernel
theorem fX0_leaveRow_57 : fet (cdT 4) 57 = some (.ixor, 0, 0) := by decide +kernel
theorem fX0_leaveRow_58 : fet (cdT 4) 58 = some (.iand, 0, 0) := by decide +kernel
theorem fX0_leaveRow_59 : fet (cdT 4) 59 = some (.putfield 22, 0, 1) := by decide +kernel
theorem fX0_leaveRow_62 : fet (cdT 4) 62 = some (.return_, 0, 0) := by decide +kernel
theorem fX0_appear_0 : fet (cdT 5) 0 = some (.aload_n 0, 0, 0) := by decide +kernel
theorem fX0_appear_1 : fet (cdT 5) 1 = some (.getfield 18, 0, 0) := by decide +kernel
theorem fX0_appear_4 : fet (cdT 5) 4 = some (.iload_n 1, 0, 0) := by decide +kernel
theorem fX0_appear_5 : fet (cdT 5) 5 = some (.invokestatic 34, 83, 2) := by decide +kernel
theorem fX0_appear_8 : fet (cdT 5) 8 = some (.ifCond .ne 29, 0, 0) := by decide +kernel
theorem fX0_appear_11 : fet (cdT 5) 11 = some (.aload_n 0, 0, 0) := by decide +kernel
theorem fX0_appear_12 : fet (cdT 5) 12 = some (.dup, 0, 0) := by decide +kernel
theorem fX0_appear_13 : fet (cdT 5) 13 = some (.getfield 18, 0, 0) := by decide +kernel
theorem fX0_appear_16 : fet (cdT 5) 16 = some (.iconst 1, 0, 0) := by decide +kernel
theorem fX0_appear_17 : fet (cdT 5) 17 = some (.iload_n 1, 0, 0) := by decide +kernel
theorem fX0_appear_18 : fet (cdT 5) 18 = some (.ishl, 0, 0) := by decide +kernel
theorem fX0_appear_19 : fet (cdT 5) 19 = some (.ior, 0, 0) := by decide +kernel
theorem fX0_appear_20 : fet (cdT 5) 20 = some (.putfield 18, 0, 0) := by decide +kernel
theorem fX0_appear_23 : fet (cdT 5) 23 = some (.aload_n 0, 0, 0) := by decide +kernel
theorem fX0_appear_24 : fet (cdT 5) 24 = some (.getfield 9, 0, 2) := by decide +kernel
theorem fX0_appear_27 : fet (cdT 5) 27 = some (.iload_n 1, 0, 0) := by decide +kernel
theorem fX0_appear_28 : fet (cdT 5) 28 = some (.iaload, 0, 0) := by decide +kernel
theorem fX0_appear_29 : fet (cdT 5) 29 = some (.ifCond .ne 8, 0, 0) := by decide +kernel
theorem fX0_appear_32 : fet (cdT 5) 32 = some (.aload_n 0, 0, 0) := by decide +kernel
theorem fX0_appear_33 : fet (cdT 5) 33 = some (.iload_n 1, 0, 0) := by decide +kernel
theorem fX0_appear_34 : fet (cdT 5) 34 = some (.invokevirtual 38, 3, 0) := by decide +kernel
theorem fX0_appear_37 : fet (cdT 5) 37 = some (.return_, 0, 0) := by decide +kernel
theorem fX0_vanish_0 : fet (cdT 6) 0 = some (.aload_n 0, 0, 0) := by decide +kernel
theorem fX0_vanish_1 : fet (cdT 6) 1 = some (.dup, 0, 0) := by decide +kernel
theorem fX0_vanish_2 : fet (cdT 6) 2 = some (.getfield 18, 0, 0) := by decide +kernel
theorem fX0_vanish_5 : fet (cdT 6) 5 = some (.iconst 1, 0, 0) := by decide +kernel
theorem fX0_vanish_6 : fet (cdT 6) 6 = some (.iload_n 1, 0, 0) := by decide +kernel
theorem fX0_vanish_7 : fet (cdT 6) 7 = some (.ishl, 0, 0) := by decide +kernel
theorem fX0_vanish_8 : fet (cdT 6) 8 = some (.iconst (-1), 0, 0) := by decide +kernel
theorem fX0_vanish_9 : fet (cdT 6) 9 = some (.ixor, 0, 0) := by decide +kernel
theorem fX0_vanish_10 : fet (cdT 6) 10 = some (.iand, 0, 0) := by decide +kernel
theorem fX0_vanish_11 : fet (cdT 6) 11 = some (.putfield 18, 0, 0) := by decide +kernel
theorem fX0_vanish_14 : fet (cdT 6) 14 = some (.aload_n 0, 0, 0) := by decide +kernel
theorem fX0_vanish_15 : fet (cdT 6) 15 = some (.getfield 22, 0, 1) := by decide +kernel
theorem fX0_vanish_18 : fet (cdT 6) 18 = some (.iload_n 1, 0, 0) := by decide +kernel
theorem fX0_vanish_19 : fet (cdT 6) 19 = some (.invokestatic 34, 83, 2) := by decide +kernel
theorem fX0_vanish_22 : fet (cdT 6) 22 = some (.ifCond .eq 8, 0, 0) := by decide +kernel
theorem fX0_vanish_25 : fet (cdT 6) 25 = some (.aload_n 0, 0, 0) := by decide +kernel
theorem fX0_vanish_26 : fet (cdT 6) 26 = some (.iload_n 1, 0, 0) := by decide +kernel
theorem fX0_vanish_27 : fet (cdT 6) 27 = some (.invokevirtual 42, 4, 0) := by decide +kernel
theorem fX0_vanish_30 : fet (cdT 6) 30 = some (.return_, 0, 0) := by decide +kernel
theorem fX0_confirm_0 : fet (cdT 7) 0 = some (.aload_n 0, 0, 0) := by decide +kernel
theorem fX0_confirm_1 : fet (cdT 7) 1 = some (.getfield 18, 0, 0) := by decide +kernel
theorem fX0_confirm_4 : fet (cdT 7) 4 = some (.iload_n 1, 0, 0) := by decide +kernel
theorem fX0_confirm_5 : fet (cdT 7) 5 = some (.invokestatic 34, 83, 2) := by decide +kernel
theorem fX0_confirm_8 : fet (cdT 7) 8 = some (.ifCond .eq 18, 0, 0) := by decide +kernel
theorem fX0_confirm_11 : fet (cdT 7) 11 = some (.aload_n 0, 0, 0) := by decide +kernel
theorem fX0_confirm_12 : fet (cdT 7) 12 = some (.dup, 0, 0) := by decide +kernel
theorem fX0_confirm_13 : fet (cdT 7) 13 = some (.getfield 22, 0, 1) := by decide +kernel
theorem fX0_confirm_16 : fet (cdT 7) 16 = some (.iconst 1, 0, 0) := by decide +kernel
theorem fX0_confirm_17 : fet (cdT 7) 17 = some (.iload_n 1, 0, 0) := by decide +kernel
theorem fX0_confirm_18 : fet (cdT 7) 18 = some (.ishl, 0, 0) := by decide +kernel
theorem fX0_confirm_19 : fet (cdT 7) 19 = some (.ior, 0, 0) := by decide +kernel
theorem fX0_confirm_20 : fet (cdT 7) 20 = some (.putfield 22, 0, 1) := by decide +kernel
theorem fX0_confirm_23 : fet (cdT 7) 23 = some (.goto 8, 0, 0) := by decide +kernel
theorem fX0_confirm_26 : fet (cdT 7) 26 = some (.aload_n 0, 0, 0) := by decide +kernel
theorem fX0_confirm_27 : fet (cdT 7) 27 = some (.iload_n 1, 0, 0) := by decide +kernel
theorem fX0_confirm_28 : fet (cdT 7) 28 = some (.invokevirtual 42, 4, 0) := by decide +kernel
theorem fX0_confirm_31 : fet (cdT 7) 31 = some (.return_, 0, 0) := by decide +kernel
theorem fX0_putAway_0 : fet (cdT 8) 0 = some (.aload_n 0, 0, 0) := by decide +kernel
theorem fX0_putAway_1 : fet (cdT 8) 1 = some (.getfield 9, 0, 2) := by decide +kernel
theorem fX0_putAway_4 : fet (cdT 8) 4 = some (.iload_n 1, 0, 0) := by decide +kernel
theorem fX0_putAway_5 : fet (cdT 8) 5 = some (.iload_n 2, 0, 0) := by decide +kernel
theorem fX0_putAway_6 : fet (cdT 8) 6 = some (.iastore, 0, 0) := by decide +kernel
theorem fX0_putAway_7 : fet (cdT 8) 7 = some (.iload_n 2, 0, 0) := by decide +kernel
theorem fX0_putAway_8 : fet (cdT 8) 8 = some (.ifCond .le 11, 0, 0) := by decide +kernel
theorem fX0_putAway_11 : fet (cdT 8) 11 = some (.aload_n 0, 0, 0) := by decide +kernel
theorem fX0_putAway_12 : fet (cdT 8) 12 = some (.iload_n 1, 0, 0) := by decide +kernel
theorem fX0_putAway_13 : fet (cdT 8) 13 = some (.invokevirtual 42, 4, 0) := by decide +kernel
theorem fX0_putAway_16 : fet (cdT 8) 16 = some (.goto 19, 0, 0) := by decide +kernel
theorem fX0_putAway_19 : fet (cdT 8) 19 = some (.aload_n 0, 0, 0) := by decide +kernel
theorem fX0_putAway_20 : fet (cdT 8) 20 = some (.getfield 18, 0, 0) := by decide +kernel
theorem fX0_putAway_23 : fet (cdT 8) 23 = some (.iload_n 1, 0, 0) := by decide +kernel
theorem fX0_putAway_24 : fet (cdT 8) 24 = some (.invokestatic 34, 83, 2) := by decide +kernel
theorem fX0_putAway_27 : fet (cdT 8) 27 = some (.ifCond .eq 8, 0, 0) := by decide +kernel
theorem fX0_putAway_30 : fet (cdT 8) 30 = some (.aload_n 0, 0, 0) := by decide +kernel
theorem fX0_putAway_31 : fet (cdT 8) 31 = some (.iload_n 1, 0, 0) := by decide +kernel
theorem fX0_putAway_32 : fet (cdT 8) 32 = some (.invokevirtual 38, 3, 0) := by decide +kernel
theorem fX0_putAway_35 : fet (cdT 8) 35 = some (.return_, 0, 0) := by decide +kernel
theorem fX0_shortenShelving_0 : fet (cdT 9) 0 = some (.iconst 0, 0, 0) := by decide +kernel
theorem fX0_shortenShelving_1 : fet (cdT 9) 1 = some (.istore_n 1, 0, 0) := by decide +kernel
theorem fX0_shortenShelving_2 : fet (cdT 9) 2 = some (.iload_n 1, 0, 0) := by decide +kernel
theorem fX0_shortenShelving_3 : fet (cdT 9) 3 = some (.bipush 8, 0, 0) := by decide +kernel
theorem fX0_shortenShelving_5 : fet (cdT 9) 5 = some (.if_icmp .ge 53, 0, 0) := by decide +kernel
theorem fX0_shortenShelving_8 : fet (cdT 9) 8 = some (.aload_n 0, 0, 0) := by decide +kernel
theorem fX0_shortenShelving_9 : fet (cdT 9) 9 = some (.getfield 9, 0, 2) := by decide +kernel
theorem fX0_shortenShelving_12 : fet (cdT 9) 12 = some (.iload_n 1, 0, 0) := by decide +kernel
theorem fX0_shortenShelving_13 : fet (cdT 9) 13 = some (.iaload, 0, 0) := by decide +kernel
theorem fX0_shortenShelving_14 : fet (cdT 9) 14 = some (.ifCond .le 38, 0, 0) := by decide +kernel
theorem fX0_shortenShelving_17 : fet (cdT 9) 17 = some (.aload_n 0, 0, 0) := by decide +kernel
theorem fX0_shortenShelving_18 : fet (cdT 9) 18 = some (.getfield 9, 0, 2) := by decide +kernel
theorem fX0_shortenShelving_21 : fet (cdT 9) 21 = some (.iload_n 1, 0, 0) := by decide +kernel
theorem fX0_shortenShelving_22 : fet (cdT 9) 22 = some (.dup2, 0, 0) := by decide +kernel
theorem fX0_shortenShelving_23 : fet (cdT 9) 23 = some (.iaload, 0, 0) := by decide +kernel
theorem fX0_shortenShelving_24 : fet (cdT 9) 24 = some (.iconst 1, 0, 0) := by decide +kernel
theorem fX0_shortenShelving_25 : fet (cdT 9) 25 = some (.isub, 0, 0) := by decide +kernel
theorem fX0_shortenShelving_26 : fet (cdT 9) 26 = some (.iastore, 0, 0) := by decide +kernel
theorem fX0_shortenShelving_27 : fet (cdT 9) 27 = some (.aload_n 0, 0, 0) := by decide +kernel
theorem fX0_shortenShelving_28 : fet (cdT 9) 28 = some (.getfield 9, 0, 2) := by decide +kernel
theorem fX0_shortenShelving_31 : fet (cdT 9) 31 = some (.iload_n 1, 0, 0) := by decide +kernel
theorem fX0_shortenShelving_32 : fet (cdT 9) 32 = some (.iaload, 0, 0) := by decide +kernel
theorem fX0_shortenShelving_33 : fet (cdT 9) 33 = some (.ifCond .ne 19, 0, 0) := by decide +kernel
theorem fX0_shortenShelving_36 : fet (cdT 9) 36 = some (.aload_n 0, 0, 0) := by decide +kernel
theorem fX0_shortenShelving_37 : fet (cdT 9) 37 = some (.getfield 18, 0, 0) := by decide +kernel
theorem fX0_shortenShelving_40 : fet (cdT 9) 40 = some (.iload_n 1, 0, 0) := by decide +kernel
theorem fX0_shortenShelving_41 : fet (cdT 9) 41 = some (.invokestatic 34, 83, 2) := by decide +kernel
theorem fX0_shortenShelving_44 : fet (cdT 9) 44 = some (.ifCond .eq 8, 0, 0) := by decide +kernel
theorem fX0_shortenShelving_47 : fet (cdT 9) 47 = some (.aload_n 0, 0, 0) := by decide +kernel
theorem fX0_shortenShelving_48 : fet (cdT 9) 48 = some (.iload_n 1, 0, 0) := by decide +kernel
theorem fX0_shortenShelving_49 : fet (cdT 9) 49 = some (.invokevirtual 38, 3, 0) := by decide +kernel
theorem fX0_shortenShelving_52 : fet (cdT 9) 52 = some (.iinc 1 1, 0, 0) := by decide +kernel
theorem fX0_shortenShelving_55 : fet (cdT 9) 55 = some (.goto (-53), 0, 0) := by decide +kernel
theorem fX0_shortenShelving_58 : fet (cdT 9) 58 = some (.return_, 0, 0) := by decide +kernel
theorem fX0_letterOf_0 : fet (cdT 10) 0 = some (.aload_n 0, 0, 0) := by decide +kernel
theorem fX0_letterOf_1 : fet (cdT 10) 1 = some (.getfield 9, 0, 2) := by decide +kernel
theorem fX0_letterOf_4 : fet (cdT 10) 4 = some (.iload_n 1, 0, 0) := by decide +kernel
theorem fX0_letterOf_5 : fet (cdT 10) 5 = some (.iaload, 0, 0) := by decide +kernel
theorem fX0_letterOf_6 : fet (cdT 10) 6 = some (.ifCond .le 6, 0, 0) := by decide +kernel
theorem fX0_letterOf_9 : fet (cdT 10) 9 = some (.bipush 115, 0, 0) := by decide +kernel
theorem fX0_letterOf_11 : fet (cdT 10) 11 = some (.ireturn, 0, 0) := by decide +kernel
theorem fX0_letterOf_12 : fet (cdT 10) 12 = some (.aload_n 0, 0, 0) := by decide +kernel
theorem fX0_letterOf_13 : fet (cdT 10) 13 = some (.getfield 18, 0, 0) := by decide +kernel
theorem fX0_letterOf_16 : fet (cdT 10) 16 = some (.iload_n 1, 0, 0) := by decide +kernel
theorem fX0_letterOf_17 : fet (cdT 10) 17 = some (.invokestatic 34, 83, 2) := by decide +kernel
theorem fX0_letterOf_20 : fet (cdT 10) 20 = some (.ifCond .eq 22, 0, 0) := by decide +kernel
theorem fX0_letterOf_23 : fet (cdT 10) 23 = some (.aload_n 0, 0, 0) := by decide +kernel
theorem fX0_letterOf_24 : fet (cdT 10) 24 = some (.getfield 22, 0, 1) := by decide +kernel
theorem fX0_letterOf_27 : fet (cdT 10) 27 = some (.iload_n 1, 0, 0) := by decide +kernel
theorem fX0_letterOf_28 : fet (cdT 10) 28 = some (.invokestatic 34, 83, 2) := by decide +kernel
theorem fX0_letterOf_31 : fet (cdT 10) 31 = some (.ifCond .eq 8, 0, 0) := by decide +kernel
theorem fX0_letterOf_34 : fet (cdT 10) 34 = some (.bipush 97, 0, 0) := by decide +kernel
theorem fX0_letterOf_36 : fet (cdT 10) 36 = some (.goto 5, 0, 0) := by decide +kernel
theorem fX0_letterOf_39 : fet (cdT 10) 39 = some (.bipush 116, 0, 0) := by decide +kernel
theorem fX0_letterOf_41 : fet (cdT 10) 41 = some (.ireturn, 0, 0) := by decide +kernel
theorem fX0_letterOf_42 : fet (cdT 10) 42 = some (.aload_n 0, 0, 0) := by decide +kernel
theorem fX0_letterOf_43 : fet (cdT 10) 43 = some (.iload_n 1, 0, 0) := by decide +kernel
theorem fX0_letterOf_44 : fet (cdT 10) 44 = some (.invokevirtual 45, 2, 0) := by decide +kernel
theorem fX0_letterOf_47 : fet (cdT 10) 47 = some (.ifCond .le 8, 0, 0) := by decide +kernel
theorem fX0_letterOf_50 : fet (cdT 10) 50 = some (.bipush 114, 0, 0) := by decide +kernel
theorem fX0_letterOf_52 : fet (cdT 10) 52 = some (.goto 5, 0, 0) := by decide +kernel
theorem fX0_letterOf_55 : fet (cdT 10) 55 = some (.bipush 110, 0, 0) := by decide +kernel
theorem fX0_letterOf_57 : fet (cdT 10) 57 = some (.ireturn, 0, 0) := by decide +kernel
theorem fX0_areSound_0 : fet (cdT 11) 0 = some (.iconst 0, 0, 0) := by decide +kernel
theorem fX0_areSound_1 : fet (cdT 11) 1 = some (.istore_n 1, 0, 0) := by decide +kernel
theorem fX0_areSound_2 : fet (cdT 11) 2 = some (.iload_n 1, 0, 0) := by decide +kernel
theorem fX0_areSound_3 : fet (cdT 11) 3 = some (.bipush 8, 0, 0) := by decide +kernel
theorem fX0_areSound_5 : fet (cdT 11) 5 = some (.if_icmp .ge 46, 0, 0) := by decide +kernel
theorem fX0_areSound_8 : fet (cdT 11) 8 = some (.aload_n 0, 0, 0) := by decide +kernel
theorem fX0_areSound_9 : fet (cdT 11) 9 = some (.iload_n 1, 0, 0) := by decide +kernel
theorem fX0_areSound_10 : fet (cdT 11) 10 = some (.invokevirtual 45, 2, 0) := by decide +kernel
theorem fX0_areSound_13 : fet (cdT 11) 13 = some (.istore_n 2, 0, 0) := by decide +kernel
theorem fX0_areSound_14 : fet (cdT 11) 14 = some (.iload_n 2, 0, 0) := by decide +kernel
theorem fX0_areSound_15 : fet (cdT 11) 15 = some (.iconst 1, 0, 0) := by decide +kernel
theorem fX0_areSound_16 : fet (cdT 11) 16 = some (.if_icmp .gt 27, 0, 0) := by decide +kernel
theorem fX0_areSound_19 : fet (cdT 11) 19 = some (.iload_n 2, 0, 0) := by decide +kernel
theorem fX0_areSound_20 : fet (cdT 11) 20 = some (.ifCond .ne 25, 0, 0) := by decide +kernel
theorem fX0_areSound_23 : fet (cdT 11) 23 = some (.aload_n 0, 0, 0) := by decide +kernel
theorem fX0_areSound_24 : fet (cdT 11) 24 = some (.getfield 18, 0, 0) := by decide +kernel
theorem fX0_areSound_27 : fet (cdT 11) 27 = some (.iload_n 1, 0, 0) := by decide +kernel
theorem fX0_areSound_28 : fet (cdT 11) 28 = some (.invokestatic 34, 83, 2) := by decide +kernel
theorem fX0_areSound_31 : fet (cdT 11) 31 = some (.ifCond .eq 14, 0, 0) := by decide +kernel
theorem fX0_areSound_34 : fet (cdT 11) 34 = some (.aload_n 0, 0, 0) := by decide +kernel
theorem fX0_areSound_35 : fet (cdT 11) 35 = some (.getfield 9, 0, 2) := by decide +kernel
theorem fX0_areSound_38 : fet (cdT 11) 38 = some (.iload_n 1, 0, 0) := by decide +kernel
theorem fX0_areSound_39 : fet (cdT 11) 39 = some (.iaload, 0, 0) := by decide +kernel
theorem fX0_areSound_40 : fet (cdT 11) 40 = some (.ifCond .ne 5, 0, 0) := by decide +kernel
theorem fX0_areSound_43 : fet (cdT 11) 43 = some (.iconst 0, 0, 0) := by decide +kernel
theorem fX0_areSound_44 : fet (cdT 11) 44 = some (.ireturn, 0, 0) := by decide +kernel
theorem fX0_areSound_45 : fet (cdT 11) 45 = some (.iinc 1 1, 0, 0) := by decide +kernel
theorem fX0_areSound_48 : fet (cdT 11) 48 = some (.goto (-46), 0, 0) := by decide +kernel
theorem fX0_areSound_51 : fet (cdT 11) 51 = some (.iconst 1, 0, 0) := by decide +kernel
theorem fX0_areSound_52 : fet (cdT 11) 52 = some (.ireturn, 0, 0) := by decide +kernel
theorem fX1_giveAll_0 : fet (cdT 12) 0 = some (.iconst 0, 0, 0) := by decide +kernel
theorem fX1_giveAll_1 : fet (cdT 12) 1 = some (.istore_n 2, 0, 0) := by decide +kernel
theorem fX1_giveAll_2 : fet (cdT 12) 2 = some (.iload_n 2, 0, 0) := by decide +kernel
theorem fX1_giveAll_3 : fet (cdT 12) 3 = some (.bipush 8, 0, 0) := by decide +kernel
theorem fX1_giveAll_5 : fet (cdT 12) 5 = some (.if_icmp .ge 32, 0, 0) := by decide +kernel
theorem fX1_giveAll_8 : fet (cdT 12) 8 = some (.aload_n 0, 0, 0) := by decide +kernel
theorem fX1_giveAll_9 : fet (cdT 12) 9 = some (.getfield 19, 1, 1) := by decide +kernel
theorem fX1_giveAll_12 : fet (cdT 12) 12 = some (.iload_n 1, 0, 0) := by decide +kernel
theorem fX1_giveAll_13 : fet (cdT 12) 13 = some (.ixor, 0, 0) := by decide +kernel
theorem fX1_giveAll_14 : fet (cdT 12) 14 = some (.iload_n 2, 0, 0) := by decide +kernel
theorem fX1_giveAll_15 : fet (cdT 12) 15 = some (.invokestatic 22, 83, 2) := by decide +kernel
theorem fX1_giveAll_18 : fet (cdT 12) 18 = some (.ifCond .eq 13, 0, 0) := by decide +kernel
theorem fX1_giveAll_21 : fet (cdT 12) 21 = some (.aload_n 0, 0, 0) := by decide +kernel
theorem fX1_giveAll_22 : fet (cdT 12) 22 = some (.getfield 9, 1, 2) := by decide +kernel
theorem fX1_giveAll_25 : fet (cdT 12) 25 = some (.iload_n 2, 0, 0) := by decide +kernel
theorem fX1_giveAll_26 : fet (cdT 12) 26 = some (.dup2, 0, 0) := by decide +kernel
theorem fX1_giveAll_27 : fet (cdT 12) 27 = some (.iaload, 0, 0) := by decide +kernel
theorem fX1_giveAll_28 : fet (cdT 12) 28 = some (.iconst 1, 0, 0) := by decide +kernel
theorem fX1_giveAll_29 : fet (cdT 12) 29 = some (.iadd, 0, 0) := by decide +kernel
theorem fX1_giveAll_30 : fet (cdT 12) 30 = some (.iastore, 0, 0) := by decide +kernel
theorem fX1_giveAll_31 : fet (cdT 12) 31 = some (.iinc 2 1, 0, 0) := by decide +kernel
theorem fX1_giveAll_34 : fet (cdT 12) 34 = some (.goto (-32), 0, 0) := by decide +kernel
theorem fX1_giveAll_37 : fet (cdT 12) 37 = some (.aload_n 0, 0, 0) := by decide +kernel
theorem fX1_giveAll_38 : fet (cdT 12) 38 = some (.iload_n 1, 0, 0) := by decide +kernel
theorem fX1_giveAll_39 : fet (cdT 12) 39 = some (.putfield 19, 1, 1) := by decide +kernel
theorem fX1_giveAll_42 : fet (cdT 12) 42 = some (.return_, 0, 0) := by decide +kernel
theorem fX1_localInputs_0 : fet (cdT 13) 0 = some (.iload_n 1, 0, 0) := by decide +kernel
theorem fX1_localInputs_1 : fet (cdT 13) 1 = some (.bipush (-16), 0, 0) := by decide +kernel
theorem fX1_localInputs_3 : fet (cdT 13) 3 = some (.iand, 0, 0) := by decide +kernel
theorem fX1_localInputs_4 : fet (cdT 13) 4 = some (.aload_n 0, 0, 0) := by decide +kernel
theorem fX1_localInputs_5 : fet (cdT 13) 5 = some (.getfield 26, 1, 0) := by decide +kernel
theorem fX1_localInputs_8 : fet (cdT 13) 8 = some (.bipush 15, 0, 0) := by decide +kernel
theorem fX1_localInputs_10 : fet (cdT 13) 10 = some (.iand, 0, 0) := by decide +kernel
theorem fX1_localInputs_11 : fet (cdT 13) 11 = some (.ior, 0, 0) := by decide +kernel
theorem fX1_localInputs_12 : fet (cdT 13) 12 = some (.ireturn, 0, 0) := by decide +kernel
theorem fX1_stationInputs_0 : fet (cdT 14) 0 = some (.aload_n 0, 0, 0) := by decide +kernel
theorem fX1_stationInputs_1 : fet (cdT 14) 1 = some (.getfield 29, 1, 3) := by decide +kernel
theorem fX1_stationInputs_4 : fet (cdT 14) 4 = some (.ifCond .ne 23, 0, 0) := by decide +kernel
theorem fX1_stationInputs_7 : fet (cdT 14) 7 = some (.aload_n 0, 0, 0) := by decide +kernel
theorem fX1_stationInputs_8 : fet (cdT 14) 8 = some (.iconst 0, 0, 0) := by decide +kernel
theorem fX1_stationInputs_9 : fet (cdT 14) 9 = some (.putfield 32, 1, 4) := by decide +kernel
theorem fX1_stationInputs_12 : fet (cdT 14) 12 = some (.iload_n 1, 0, 0) := by decide +kernel
theorem fX1_stationInputs_13 : fet (cdT 14) 13 = some (.sipush (-241), 0, 0) := by decide +kernel
theorem fX1_stationInputs_16 : fet (cdT 14) 16 = some (.iand, 0, 0) := by decide +kernel
theorem fX1_stationInputs_17 : fet (cdT 14) 17 = some (.aload_n 0, 0, 0) := by decide +kernel
theorem fX1_stationInputs_18 : fet (cdT 14) 18 = some (.getfield 26, 1, 0) := by decide +kernel
theorem fX1_stationInputs_21 : fet (cdT 14) 21 = some (.sipush 240, 0, 0) := by decide +kernel
theorem fX1_stationInputs_24 : fet (cdT 14) 24 = some (.iand, 0, 0) := by decide +kernel
theorem fX1_stationInputs_25 : fet (cdT 14) 25 = some (.ior, 0, 0) := by decide +kernel
theorem fX1_stationInputs_26 : fet (cdT 14) 26 = some (.ireturn, 0, 0) := by decide +kernel
theorem fX1_stationInputs_27 : fet (cdT 14) 27 = some (.aload_n 0, 0, 0) := by decide +kernel
theorem fX1_stationInputs_28 : fet (cdT 14) 28 = some (.dup, 0, 0) := by decide +kernel
theorem fX1_stationInputs_29 : fet (cdT 14) 29 = some (.getfield 29, 1, 3) := by decide +kernel
theorem fX1_stationInputs_32 : fet (cdT 14) 32 = some (.iconst 1, 0, 0) := by decide +kernel
theorem fX1_stationInputs_33 : fet (cdT 14) 33 = some (.isub, 0, 0) := by decide +kernel
theorem fX1_stationInputs_34 : fet (cdT 14) 34 = some (.putfield 29, 1, 3) := by decide +kernel
theorem fX1_stationInputs_37 : fet (cdT 14) 37 = some (.aload_n 0, 0, 0) := by decide +kernel
theorem fX1_stationInputs_38 : fet (cdT 14) 38 = some (.dup, 0, 0) := by decide +kernel
theorem fX1_stationInputs_39 : fet (cdT 14) 39 = some (.getfield 32, 1, 4) := by decide +kernel
theorem fX1_stationInputs_42 : fet (cdT 14) 42 = some (.iconst 1, 0, 0) := by decide +kernel
theorem fX1_stationInputs_43 : fet (cdT 14) 43 = some (.iadd, 0, 0) := by decide +kernel
theorem fX1_stationInputs_44 : fet (cdT 14) 44 = some (.putfield 32, 1, 4) := by decide +kernel
theorem fX1_stationInputs_47 : fet (cdT 14) 47 = some (.aload_n 0, 0, 0) := by decide +kernel
theorem fX1_stationInputs_48 : fet (cdT 14) 48 = some (.getfield 32, 1, 4) := by decide +kernel
theorem fX1_stationInputs_51 : fet (cdT 14) 51 = some (.aload_n 0, 0, 0) := by decide +kernel
theorem fX1_stationInputs_52 : fet (cdT 14) 52 = some (.getfield 15, 1, 5) := by decide +kernel
theorem fX1_stationInputs_55 : fet (cdT 14) 55 = some (.if_icmp .gt 7, 0, 0) := by decide +kernel
theorem fX1_stationInputs_58 : fet (cdT 14) 58 = some (.iload_n 1, 0, 0) := by decide +kernel
theorem fX1_stationInputs_59 : fet (cdT 14) 59 = some (.goto 8, 0, 0) := by decide +kernel
theorem fX1_stationInputs_62 : fet (cdT 14) 62 = some (.iload_n 1, 0, 0) := by decide +kernel
theorem fX1_stationInputs_63 : fet (cdT 14) 63 = some (.sipush (-241), 0, 0) := by decide +kernel
theorem fX1_stationInputs_66 : fet (cdT 14) 66 = some (.iand, 0, 0) := by decide +kernel
theorem fX1_stationInputs_67 : fet (cdT 14) 67 = some (.ireturn, 0, 0) := by decide +kernel
theorem fX1_forgetLosses_0 : fet (cdT 15) 0 = some (.aload_n 0, 0, 0) := by decide +kernel
theorem fX1_forgetLosses_1 : fet (cdT 15) 1 = some (.iconst 0, 0, 0) := by decide +kernel
theorem fX1_forgetLosses_2 : fet (cdT 15) 2 = some (.putfield 29, 1, 3) := by decide +kernel
theorem fX1_forgetLosses_5 : fet (cdT 15) 5 = some (.aload_n 0, 0, 0) := by decide +kernel
theorem fX1_forgetLosses_6 : fet (cdT 15) 6 = some (.iconst 0, 0, 0) := by decide +kernel
theorem fX1_forgetLosses_7 : fet (cdT 15) 7 = some (.putfield 32, 1, 4) := by decide +kernel
theorem fX1_forgetLosses_10 : fet (cdT 15) 10 = some (.return_, 0, 0) := by decide +kernel
theorem fX2_clear_0 : fet (cdT 16) 0 = some (.aload_n 0, 0, 0) := by decide +kernel
theorem fX2_clear_1 : fet (cdT 16) 1 = some (.iconst 0, 0, 0) := by decide +kernel
theorem fX2_clear_2 : fet (cdT 16) 2 = some (.putfield 32, 2, 0) := by decide +kernel
theorem fX2_clear_5 : fet (cdT 16) 5 = some (.aload_n 0, 0, 0) := by decide +kernel
theorem fX2_clear_6 : fet (cdT 16) 6 = some (.iconst 0, 0, 0) := by decide +kernel
theorem fX2_clear_7 : fet (cdT 16) 7 = some (.putfield 36, 2, 1) := by decide +kernel
theorem fX2_clear_10 : fet (cdT 16) 10 = some (.aload_n 0, 0, 0) := by decide +kernel
theorem fX2_clear_11 : fet (cdT 16) 11 = some (.iconst 0, 0, 0) := by decide +kernel
theorem fX2_clear_12 : fet (cdT 16) 12 = some (.putfield 39, 2, 2) := by decide +kernel
theorem fX2_clear_15 : fet (cdT 16) 15 = some (.return_, 0, 0) := by decide +kernel
theorem fX2_copyFrom_0 : fet (cdT 17) 0 = some (.aload_n 0, 0, 0) := by decide +kernel
theorem fX2_copyFrom_1 : fet (cdT 17) 1 = some (.aload_n 1, 0, 0) := by decide +kernel
theorem fX2_copyFrom_2 : fet (cdT 17) 2 = some (.getfield 32, 2, 0) := by decide +kernel
theorem fX2_copyFrom_5 : fet (cdT 17) 5 = some (.putfield 32, 2, 0) := by decide +kernel
theorem fX2_copyFrom_8 : fet (cdT 17) 8 = some (.aload_n 0, 0, 0) := by decide +kernel
theorem fX2_copyFrom_9 : fet (cdT 17) 9 = some (.aload_n 1, 0, 0) := by decide +kernel
theorem fX2_copyFrom_10 : fet (cdT 17) 10 = some (.getfield 36, 2, 1) := by decide +kernel
theorem fX2_copyFrom_13 : fet (cdT 17) 13 = some (.putfield 36, 2, 1) := by decide +kernel
theorem fX2_copyFrom_16 : fet (cdT 17) 16 = some (.aload_n 0, 0, 0) := by decide +kernel
theorem fX2_copyFrom_17 : fet (cdT 17) 17 = some (.aload_n 1, 0, 0) := by decide +kernel
theorem fX2_copyFrom_18 : fet (cdT 17) 18 = some (.getfield 39, 2, 2) := by decide +kernel
theorem fX2_copyFrom_21 : fet (cdT 17) 21 = some (.putfield 39, 2, 2) := by decide +kernel
theorem fX2_copyFrom_24 : fet (cdT 17) 24 = some (.iconst 0, 0, 0) := by decide +kernel
theorem fX2_copyFrom_25 : fet (cdT 17) 25 = some (.istore_n 2, 0, 0) := by decide +kernel
theorem fX2_copyFrom_26 : fet (cdT 17) 26 = some (.iload_n 2, 0, 0) := by decide +kernel
theorem fX2_copyFrom_27 : fet (cdT 17) 27 = some (.aload_n 0, 0, 0) := by decide +kernel
theorem fX2_copyFrom_28 : fet (cdT 17) 28 = some (.getfield 32, 2, 0) := by decide +kernel
theorem fX2_copyFrom_31 : fet (cdT 17) 31 = some (.if_icmp .ge 24, 0, 0) := by decide +kernel
theorem fX2_copyFrom_34 : fet (cdT 17) 34 = some (.aload_n 0, 0, 0) := by decide +kernel
theorem fX2_copyFrom_35 : fet (cdT 17) 35 = some (.getfield 11, 2, 3) := by decide +kernel
theorem fX2_copyFrom_38 : fet (cdT 17) 38 = some (.iload_n 2, 0, 0) := by decide +kernel
theorem fX2_copyFrom_39 : fet (cdT 17) 39 = some (.aaload, 0, 0) := by decide +kernel
theorem fX2_copyFrom_40 : fet (cdT 17) 40 = some (.aload_n 1, 0, 0) := by decide +kernel
theorem fX2_copyFrom_41 : fet (cdT 17) 41 = some (.getfield 11, 2, 3) := by decide +kernel
theorem fX2_copyFrom_44 : fet (cdT 17) 44 = some (.iload_n 2, 0, 0) := by decide +kernel
theorem fX2_copyFrom_45 : fet (cdT 17) 45 = some (.aaload, 0, 0) := by decide +kernel
theorem fX2_copyFrom_46 : fet (cdT 17) 46 = some (.invokevirtual 42, 22, 0) := by decide +kernel
theorem fX2_copyFrom_49 : fet (cdT 17) 49 = some (.iinc 2 1, 0, 0) := by decide +kernel
theorem fX2_copyFrom_52 : fet (cdT 17) 52 = some (.goto (-26), 0, 0) := by decide +kernel
theorem fX2_copyFrom_55 : fet (cdT 17) 55 = some (.iconst 0, 0, 0) := by decide +kernel
theorem fX2_copyFrom_56 : fet (cdT 17) 56 = some (.istore_n 2, 0, 0) := by decide +kernel
theorem fX2_copyFrom_57 : fet (cdT 17) 57 = some (.iload_n 2, 0, 0) := by decide +kernel
theorem fX2_copyFrom_58 : fet (cdT 17) 58 = some (.aload_n 0, 0, 0) := by decide +kernel
theorem fX2_copyFrom_59 : fet (cdT 17) 59 = some (.getfield 36, 2, 1) := by decide +kernel
theorem fX2_copyFrom_62 : fet (cdT 17) 62 = some (.if_icmp .ge 24, 0, 0) := by decide +kernel
theorem fX2_copyFrom_65 : fet (cdT 17) 65 = some (.aload_n 0, 0, 0) := by decide +kernel
theorem fX2_copyFrom_66 : fet (cdT 17) 66 = some (.getfield 19, 2, 4) := by decide +kernel
theorem fX2_copyFrom_69 : fet (cdT 17) 69 = some (.iload_n 2, 0, 0) := by decide +kernel
theorem fX2_copyFrom_70 : fet (cdT 17) 70 = some (.aaload, 0, 0) := by decide +kernel
theorem fX2_copyFrom_71 : fet (cdT 17) 71 = some (.aload_n 1, 0, 0) := by decide +kernel
theorem fX2_copyFrom_72 : fet (cdT 17) 72 = some (.getfield 19, 2, 4) := by decide +kernel
theorem fX2_copyFrom_75 : fet (cdT 17) 75 = some (.iload_n 2, 0, 0) := by decide +kernel
theorem fX2_copyFrom_76 : fet (cdT 17) 76 = some (.aaload, 0, 0) := by decide +kernel
theorem fX2_copyFrom_77 : fet (cdT 17) 77 = some (.invokevirtual 46, 33, 0) := by decide +kernel
theorem fX2_copyFrom_80 : fet (cdT 17) 80 = some (.iinc 2 1, 0, 0) := by decide +kernel
theorem fX2_copyFrom_83 : fet (cdT 17) 83 = some (.goto (-26), 0, 0) := by decide +kernel
theorem fX2_copyFrom_86 : fet (cdT 17) 86 = some (.iconst 0, 0, 0) := by decide +kernel
theorem fX2_copyFrom_87 : fet (cdT 17) 87 = some (.istore_n 2, 0, 0) := by decide +kernel
theorem fX2_copyFrom_88 : fet (cdT 17) 88 = some (.iload_n 2, 0, 0) := by decide +kernel
theorem fX2_copyFrom_89 : fet (cdT 17) 89 = some (.aload_n 0, 0, 0) := by decide +kernel
theorem fX2_copyFrom_90 : fet (cdT 17) 90 = some (.getfield 39, 2, 2) := by decide +kernel
theorem fX2_copyFrom_93 : fet (cdT 17) 93 = some (.if_icmp .ge 24, 0, 0) := by decide +kernel
theorem fX2_copyFrom_96 : fet (cdT 17) 96 = some (.aload_n 0, 0, 0) := by decide +kernel
theorem fX2_copyFrom_97 : fet (cdT 17) 97 = some (.getfield 25, 2, 5) := by decide +kernel
theorem fX2_copyFrom_100 : fet (cdT 17) 100 = some (.iload_n 2, 0, 0) := by decide +kernel
theorem fX2_copyFrom_101 : fet (cdT 17) 101 = some (.aaload, 0, 0) := by decide +kernel
theorem fX2_copyFrom_102 : fet (cdT 17) 102 = some (.aload_n 1, 0, 0) := by decide +kernel
theorem fX2_copyFrom_103 : fet (cdT 17) 103 = some (.getfield 25, 2, 5) := by decide +kernel
theorem fX2_copyFrom_106 : fet (cdT 17) 106 = some (.iload_n 2, 0, 0) := by decide +kernel
theorem fX2_copyFrom_107 : fet (cdT 17) 107 = some (.aaload, 0, 0) := by decide +kernel
theorem fX2_copyFrom_108 : fet (cdT 17) 108 = some (.invokevirtual 49, 35, 0) := by decide +kernel
theorem fX2_copyFrom_111 : fet (cdT 17) 111 = some (.iinc 2 1, 0, 0) := by decide +kernel
theorem fX2_copyFrom_114 : fet (cdT 17) 114 = some (.goto (-26), 0, 0) := by decide +kernel
theorem fX2_copyFrom_117 : fet (cdT 17) 117 = some (.return_, 0, 0) := by decide +kernel
theorem fX2_hasRung_0 : fet (cdT 18) 0 = some (.iload_n 1, 0, 0) := by decide +kernel
theorem fX2_hasRung_1 : fet (cdT 18) 1 = some (.ifCond .lt 15, 0, 0) := by decide +kernel
theorem fX2_hasRung_4 : fet (cdT 18) 4 = some (.iload_n 1, 0, 0) := by decide +kernel
theorem fX2_hasRung_5 : fet (cdT 18) 5 = some (.aload_n 0, 0, 0) := by decide +kernel
theorem fX2_hasRung_6 : fet (cdT 18) 6 = some (.getfield 32, 2, 0) := by decide +kernel
theorem fX2_hasRung_9 : fet (cdT 18) 9 = some (.if_icmp .ge 7, 0, 0) := by decide +kernel
theorem fX2_hasRung_12 : fet (cdT 18) 12 = some (.iconst 1, 0, 0) := by decide +kernel
theorem fX2_hasRung_13 : fet (cdT 18) 13 = some (.goto 4, 0, 0) := by decide +kernel
theorem fX2_hasRung_16 : fet (cdT 18) 16 = some (.iconst 0, 0, 0) := by decide +kernel
theorem fX2_hasRung_17 : fet (cdT 18) 17 = some (.ireturn, 0, 0) := by decide +kernel
theorem fX2_hasStep_0 : fet (cdT 19) 0 = some (.iload_n 1, 0, 0) := by decide +kernel
theorem fX2_hasStep_1 : fet (cdT 19) 1 = some (.ifCond .lt 15, 0, 0) := by decide +kernel
theorem fX2_hasStep_4 : fet (cdT 19) 4 = some (.iload_n 1, 0, 0) := by decide +kernel
theorem fX2_hasStep_5 : fet (cdT 19) 5 = some (.aload_n 0, 0, 0) := by decide +kernel
theorem fX2_hasStep_6 : fet (cdT 19) 6 = some (.getfield 36, 2, 1) := by decide +kernel
theorem fX2_hasStep_9 : fet (cdT 19) 9 = some (.if_icmp .ge 7, 0, 0) := by decide +kernel
theorem fX2_hasStep_12 : fet (cdT 19) 12 = some (.iconst 1, 0, 0) := by decide +kernel
theorem fX2_hasStep_13 : fet (cdT 19) 13 = some (.goto 4, 0, 0) := by decide +kernel
theorem fX2_hasStep_16 : fet (cdT 19) 16 = some (.iconst 0, 0, 0) := by decide +kernel
theorem fX2_hasStep_17 : fet (cdT 19) 17 = some (.ireturn, 0, 0) := by decide +kernel
theorem fX2_hasStepOrNone_0 : fet (cdT 20) 0 = some (.iload_n 1, 0, 0) := by decide +kernel
theorem fX2_hasStepOrNone_1 : fet (cdT 20) 1 = some (.iconst (-1), 0, 0) := by decide +kernel
theorem fX2_hasStepOrNone_2 : fet (cdT 20) 2 = some (.if_icmp .eq 11, 0, 0) := by decide +kernel
theorem fX2_hasStepOrNone_5 : fet (cdT 20) 5 = some (.aload_n 0, 0, 0) := by decide +kernel
theorem fX2_hasStepOrNone_6 : fet (cdT 20) 6 = some (.iload_n 1, 0, 0) := by decide +kernel
theorem fX2_hasStepOrNone_7 : fet (cdT 20) 7 = some (.invokevirtual 52, 19, 0) := by decide +kernel
theorem fX2_hasStepOrNone_10 : fet (cdT 20) 10 = some (.ifCond .eq 7, 0, 0) := by decide +kernel
theorem fX2_hasStepOrNone_13 : fet (cdT 20) 13 = some (.iconst 1, 0, 0) := by decide +kernel
theorem fX2_hasStepOrNone_14 : fet (cdT 20) 14 = some (.goto 4, 0, 0) := by decide +kernel
theorem fX2_hasStepOrNone_17 : fet (cdT 20) 17 = some (.iconst 0, 0, 0) := by decide +kernel
theorem fX2_hasStepOrNone_18 : fet (cdT 20) 18 = some (.ireturn, 0, 0) := by decide +kernel
theorem fX2_stepMask_0 : fet (cdT 21) 0 = some (.iconst 1, 0, 0) := by decide +kernel
theorem fX2_stepMask_1 : fet (cdT 21) 1 = some (.aload_n 0, 0, 0) := by decide +kernel
theorem fX2_stepMask_2 : fet (cdT 21) 2 = some (.getfield 36, 2, 1) := by decide +kernel
theorem fX2_stepMask_5 : fet (cdT 21) 5 = some (.ishl, 0, 0) := by decide +kernel
theorem fX2_stepMask_6 : fet (cdT 21) 6 = some (.iconst 1, 0, 0) := by decide +kernel
theorem fX2_stepMask_7 : fet (cdT 21) 7 = some (.isub, 0, 0) := by decide +kernel
theorem fX2_stepMask_8 : fet (cdT 21) 8 = some (.ireturn, 0, 0) := by decide +kernel
theorem fX3_copyFrom_0 : fet (cdT 22) 0 = some (.aload_n 0, 0, 0) := by decide +kernel
theorem fX3_copyFrom_1 : fet (cdT 22) 1 = some (.aload_n 1, 0, 0) := by decide +kernel
theorem fX3_copyFrom_2 : fet (cdT 22) 2 = some (.getfield 19, 3, 0) := by decide +kernel
theorem fX3_copyFrom_5 : fet (cdT 22) 5 = some (.putfield 19, 3, 0) := by decide +kernel
theorem fX3_copyFrom_8 : fet (cdT 22) 8 = some (.aload_n 0, 0, 0) := by decide +kernel
theorem fX3_copyFrom_9 : fet (cdT 22) 9 = some (.aload_n 1, 0, 0) := by decide +kernel
theorem fX3_copyFrom_10 : fet (cdT 22) 10 = some (.getfield 23, 3, 1) := by decide +kernel
theorem fX3_copyFrom_13 : fet (cdT 22) 13 = some (.putfield 23, 3, 1) := by decide +kernel
theorem fX3_copyFrom_16 : fet (cdT 22) 16 = some (.aload_n 0, 0, 0) := by decide +kernel
theorem fX3_copyFrom_17 : fet (cdT 22) 17 = some (.aload_n 1, 0, 0) := by decide +kernel
theorem fX3_copyFrom_18 : fet (cdT 22) 18 = some (.getfield 27, 3, 2) := by decide +kernel
theorem fX3_copyFrom_21 : fet (cdT 22) 21 = some (.putfield 27, 3, 2) := by decide +kernel
theorem fX3_copyFrom_24 : fet (cdT 22) 24 = some (.aload_n 0, 0, 0) := by decide +kernel
theorem fX3_copyFrom_25 : fet (cdT 22) 25 = some (.aload_n 1, 0, 0) := by decide +kernel
theorem fX3_copyFrom_26 : fet (cdT 22) 26 = some (.getfield 30, 3, 3) := by decide +kernel
theorem fX3_copyFrom_29 : fet (cdT 22) 29 = some (.putfield 30, 3, 3) := by decide +kernel
theorem fX3_copyFrom_32 : fet (cdT 22) 32 = some (.aload_n 0, 0, 0) := by decide +kernel
theorem fX3_copyFrom_33 : fet (cdT 22) 33 = some (.aload_n 1, 0, 0) := by decide +kernel
theorem fX3_copyFrom_34 : fet (cdT 22) 34 = some (.getfield 33, 3, 4) := by decide +kernel
theorem fX3_copyFrom_37 : fet (cdT 22) 37 = some (.putfield 33, 3, 4) := by decide +kernel
theorem fX3_copyFrom_40 : fet (cdT 22) 40 = some (.iconst 0, 0, 0) := by decide +kernel
theorem fX3_copyFrom_41 : fet (cdT 22) 41 = some (.istore_n 2, 0, 0) := by decide +kernel
theorem fX3_copyFrom_42 : fet (cdT 22) 42 = some (.iload_n 2, 0, 0) := by decide +kernel
theorem fX3_copyFrom_43 : fet (cdT 22) 43 = some (.iconst 4, 0, 0) := by decide +kernel
theorem fX3_copyFrom_44 : fet (cdT 22) 44 = some (.if_icmp .ge 33, 0, 0) := by decide +kernel
theorem fX3_copyFrom_47 : fet (cdT 22) 47 = some (.aload_n 0, 0, 0) := by decide +kernel
theorem fX3_copyFrom_48 : fet (cdT 22) 48 = some (.getfield 9, 3, 5) := by decide +kernel
theorem fX3_copyFrom_51 : fet (cdT 22) 51 = some (.iload_n 2, 0, 0) := by decide +kernel
theorem fX3_copyFrom_52 : fet (cdT 22) 52 = some (.aload_n 1, 0, 0) := by decide +kernel
theorem fX3_copyFrom_53 : fet (cdT 22) 53 = some (.getfield 9, 3, 5) := by decide +kernel
theorem fX3_copyFrom_56 : fet (cdT 22) 56 = some (.iload_n 2, 0, 0) := by decide +kernel
theorem fX3_copyFrom_57 : fet (cdT 22) 57 = some (.caload, 0, 0) := by decide +kernel
theorem fX3_copyFrom_58 : fet (cdT 22) 58 = some (.castore, 0, 0) := by decide +kernel
theorem fX3_copyFrom_59 : fet (cdT 22) 59 = some (.aload_n 0, 0, 0) := by decide +kernel
theorem fX3_copyFrom_60 : fet (cdT 22) 60 = some (.getfield 15, 3, 6) := by decide +kernel
theorem fX3_copyFrom_63 : fet (cdT 22) 63 = some (.iload_n 2, 0, 0) := by decide +kernel
theorem fX3_copyFrom_64 : fet (cdT 22) 64 = some (.aload_n 1, 0, 0) := by decide +kernel
theorem fX3_copyFrom_65 : fet (cdT 22) 65 = some (.getfield 15, 3, 6) := by decide +kernel
theorem fX3_copyFrom_68 : fet (cdT 22) 68 = some (.iload_n 2, 0, 0) := by decide +kernel
theorem fX3_copyFrom_69 : fet (cdT 22) 69 = some (.iaload, 0, 0) := by decide +kernel
theorem fX3_copyFrom_70 : fet (cdT 22) 70 = some (.iastore, 0, 0) := by decide +kernel
theorem fX3_copyFrom_71 : fet (cdT 22) 71 = some (.iinc 2 1, 0, 0) := by decide +kernel
theorem fX3_copyFrom_74 : fet (cdT 22) 74 = some (.goto (-32), 0, 0) := by decide +kernel
theorem fX3_copyFrom_77 : fet (cdT 22) 77 = some (.return_, 0, 0) := by decide +kernel
theorem fX3_hasSameContact_0 : fet (cdT 23) 0 = some (.iload_n 2, 0, 0) := by decide +kernel
theorem fX3_hasSameContact_1 : fet (cdT 23) 1 = some (.aload_n 0, 0, 0) := by decide +kernel
theorem fX3_hasSameContact_2 : fet (cdT 23) 2 = some (.getfield 33, 3, 4) := by decide +kernel
theorem fX3_hasSameContact_5 : fet (cdT 23) 5 = some (.if_icmp .ge 45, 0, 0) := by decide +kernel
theorem fX3_hasSameContact_8 : fet (cdT 23) 8 = some (.iload_n 2, 0, 0) := by decide +kernel
theorem fX3_hasSameContact_9 : fet (cdT 23) 9 = some (.aload_n 1, 0, 0) := by decide +kernel
theorem fX3_hasSameContact_10 : fet (cdT 23) 10 = some (.getfield 33, 3, 4) := by decide +kernel
theorem fX3_hasSameContact_13 : fet (cdT 23) 13 = some (.if_icmp .ge 37, 0, 0) := by decide +kernel
theorem fX3_hasSameContact_16 : fet (cdT 23) 16 = some (.aload_n 0, 0, 0) := by decide +kernel
theorem fX3_hasSameContact_17 : fet (cdT 23) 17 = some (.getfield 9, 3, 5) := by decide +kernel
theorem fX3_hasSameContact_20 : fet (cdT 23) 20 = some (.iload_n 2, 0, 0) := by decide +kernel
theorem fX3_hasSameContact_21 : fet (cdT 23) 21 = some (.caload, 0, 0) := by decide +kernel
theorem fX3_hasSameContact_22 : fet (cdT 23) 22 = some (.aload_n 1, 0, 0) := by decide +kernel
theorem fX3_hasSameContact_23 : fet (cdT 23) 23 = some (.getfield 9, 3, 5) := by decide +kernel
theorem fX3_hasSameContact_26 : fet (cdT 23) 26 = some (.iload_n 2, 0, 0) := by decide +kernel
theorem fX3_hasSameContact_27 : fet (cdT 23) 27 = some (.caload, 0, 0) := by decide +kernel
theorem fX3_hasSameContact_28 : fet (cdT 23) 28 = some (.if_icmp .ne 22, 0, 0) := by decide +kernel
theorem fX3_hasSameContact_31 : fet (cdT 23) 31 = some (.aload_n 0, 0, 0) := by decide +kernel
theorem fX3_hasSameContact_32 : fet (cdT 23) 32 = some (.getfield 15, 3, 6) := by decide +kernel
theorem fX3_hasSameContact_35 : fet (cdT 23) 35 = some (.iload_n 2, 0, 0) := by decide +kernel
theorem fX3_hasSameContact_36 : fet (cdT 23) 36 = some (.iaload, 0, 0) := by decide +kernel
theorem fX3_hasSameContact_37 : fet (cdT 23) 37 = some (.aload_n 1, 0, 0) := by decide +kernel
theorem fX3_hasSameContact_38 : fet (cdT 23) 38 = some (.getfield 15, 3, 6) := by decide +kernel
theorem fX3_hasSameContact_41 : fet (cdT 23) 41 = some (.iload_n 2, 0, 0) := by decide +kernel
theorem fX3_hasSameContact_42 : fet (cdT 23) 42 = some (.iaload, 0, 0) := by decide +kernel
theorem fX3_hasSameContact_43 : fet (cdT 23) 43 = some (.if_icmp .ne 7, 0, 0) := by decide +kernel
theorem fX3_hasSameContact_46 : fet (cdT 23) 46 = some (.iconst 1, 0, 0) := by decide +kernel
theorem fX3_hasSameContact_47 : fet (cdT 23) 47 = some (.goto 4, 0, 0) := by decide +kernel
theorem fX3_hasSameContact_50 : fet (cdT 23) 50 = some (.iconst 0, 0, 0) := by decide +kernel
theorem fX3_hasSameContact_51 : fet (cdT 23) 51 = some (.ireturn, 0, 0) := by decide +kernel
theorem fX3_isSameCounter_0 : fet (cdT 24) 0 = some (.aload_n 0, 0, 0) := by decide +kernel
theorem fX3_isSameCounter_1 : fet (cdT 24) 1 = some (.getfield 23, 3, 1) := by decide +kernel
theorem fX3_isSameCounter_4 : fet (cdT 24) 4 = some (.bipush 67, 0, 0) := by decide +kernel
theorem fX3_isSameCounter_6 : fet (cdT 24) 6 = some (.if_icmp .ne 27, 0, 0) := by decide +kernel
theorem fX3_isSameCounter_9 : fet (cdT 24) 9 = some (.aload_n 1, 0, 0) := by decide +kernel
theorem fX3_isSameCounter_10 : fet (cdT 24) 10 = some (.getfield 23, 3, 1) := by decide +kernel
theorem fX3_isSameCounter_13 : fet (cdT 24) 13 = some (.bipush 67, 0, 0) := by decide +kernel
theorem fX3_isSameCounter_15 : fet (cdT 24) 15 = some (.if_icmp .ne 18, 0, 0) := by decide +kernel
theorem fX3_isSameCounter_18 : fet (cdT 24) 18 = some (.aload_n 0, 0, 0) := by decide +kernel
theorem fX3_isSameCounter_19 : fet (cdT 24) 19 = some (.getfield 27, 3, 2) := by decide +kernel
theorem fX3_isSameCounter_22 : fet (cdT 24) 22 = some (.aload_n 1, 0, 0) := by decide +kernel
theorem fX3_isSameCounter_23 : fet (cdT 24) 23 = some (.getfield 27, 3, 2) := by decide +kernel
theorem fX3_isSameCounter_26 : fet (cdT 24) 26 = some (.if_icmp .ne 7, 0, 0) := by decide +kernel
theorem fX3_isSameCounter_29 : fet (cdT 24) 29 = some (.iconst 1, 0, 0) := by decide +kernel
theorem fX3_isSameCounter_30 : fet (cdT 24) 30 = some (.goto 4, 0, 0) := by decide +kernel
theorem fX3_isSameCounter_33 : fet (cdT 24) 33 = some (.iconst 0, 0, 0) := by decide +kernel
theorem fX3_isSameCounter_34 : fet (cdT 24) 34 = some (.ireturn, 0, 0) := by decide +kernel
theorem fX4_clear_0 : fet (cdT 25) 0 = some (.aload_n 0, 0, 0) := by decide +kernel
theorem fX4_clear_1 : fet (cdT 25) 1 = some (.iconst 1, 0, 0) := by decide +kernel
theorem fX4_clear_2 : fet (cdT 25) 2 = some (.putfield 16, 4, 1) := by decide +kernel
theorem fX4_clear_5 : fet (cdT 25) 5 = some (.aload_n 0, 0, 0) := by decide +kernel
theorem fX4_clear_6 : fet (cdT 25) 6 = some (.iconst 0, 0, 0) := by decide +kernel
theorem fX4_clear_7 : fet (cdT 25) 7 = some (.putfield 20, 4, 2) := by decide +kernel
theorem fX4_clear_10 : fet (cdT 25) 10 = some (.aload_n 0, 0, 0) := by decide +kernel
theorem fX4_clear_11 : fet (cdT 25) 11 = some (.iconst 0, 0, 0) := by decide +kernel
theorem fX4_clear_12 : fet (cdT 25) 12 = some (.putfield 23, 4, 3) := by decide +kernel
theorem fX4_clear_15 : fet (cdT 25) 15 = some (.aload_n 0, 0, 0) := by decide +kernel
theorem fX4_clear_16 : fet (cdT 25) 16 = some (.iconst 0, 0, 0) := by decide +kernel
theorem fX4_clear_17 : fet (cdT 25) 17 = some (.putfield 26, 4, 4) := by decide +kernel
theorem fX4_clear_20 : fet (cdT 25) 20 = some (.return_, 0, 0) := by decide +kernel
theorem fX4_follow_0 : fet (cdT 26) 0 = some (.aload_n 0, 0, 0) := by decide +kernel
theorem fX4_follow_1 : fet (cdT 26) 1 = some (.getfield 16, 4, 1) := by decide +kernel
theorem fX4_follow_4 : fet (cdT 26) 4 = some (.ifCond .eq 16, 0, 0) := by decide +kernel
theorem fX4_follow_7 : fet (cdT 26) 7 = some (.aload_n 0, 0, 0) := by decide +kernel
theorem fX4_follow_8 : fet (cdT 26) 8 = some (.getfield 10, 4, 0) := by decide +kernel
theorem fX4_follow_11 : fet (cdT 26) 11 = some (.aload_n 1, 0, 0) := by decide +kernel
theorem fX4_follow_12 : fet (cdT 26) 12 = some (.invokevirtual 29, 29, 0) := by decide +kernel
theorem fX4_follow_15 : fet (cdT 26) 15 = some (.aload_n 0, 0, 0) := by decide +kernel
theorem fX4_follow_16 : fet (cdT 26) 16 = some (.iconst 1, 0, 0) := by decide +kernel
theorem fX4_follow_17 : fet (cdT 26) 17 = some (.putfield 20, 4, 2) := by decide +kernel
theorem fX4_follow_20 : fet (cdT 26) 20 = some (.return_, 0, 0) := by decide +kernel
theorem fX4_endComing_0 : fet (cdT 27) 0 = some (.aload_n 0, 0, 0) := by decide +kernel
theorem fX4_endComing_1 : fet (cdT 27) 1 = some (.getfield 23, 4, 3) := by decide +kernel
theorem fX4_endComing_4 : fet (cdT 27) 4 = some (.ifCond .eq 13, 0, 0) := by decide +kernel
theorem fX4_endComing_7 : fet (cdT 27) 7 = some (.aload_n 0, 0, 0) := by decide +kernel
theorem fX4_endComing_8 : fet (cdT 27) 8 = some (.iconst 0, 0, 0) := by decide +kernel
theorem fX4_endComing_9 : fet (cdT 27) 9 = some (.putfield 23, 4, 3) := by decide +kernel
theorem fX4_endComing_12 : fet (cdT 27) 12 = some (.aload_n 0, 0, 0) := by decide +kernel
theorem fX4_endComing_13 : fet (cdT 27) 13 = some (.iconst 1, 0, 0) := by decide +kernel
theorem fX4_endComing_14 : fet (cdT 27) 14 = some (.putfield 16, 4, 1) := by decide +kernel
theorem fX4_endComing_17 : fet (cdT 27) 17 = some (.return_, 0, 0) := by decide +kernel
theorem fX5_clear_0 : fet (cdT 28) 0 = some (.aload_n 0, 0, 0) := by decide +kernel
theorem fX5_clear_1 : fet (cdT 28) 1 = some (.iconst 0, 0, 0) := by decide +kernel
theorem fX5_clear_2 : fet (cdT 28) 2 = some (.putfield 38, 5, 0) := by decide +kernel
theorem fX5_clear_5 : fet (cdT 28) 5 = some (.aload_n 0, 0, 0) := by decide +kernel
theorem fX5_clear_6 : fet (cdT 28) 6 = some (.iconst 1, 0, 0) := by decide +kernel
theorem fX5_clear_7 : fet (cdT 28) 7 = some (.putfield 9, 5, 1) := by decide +kernel
theorem fX5_clear_10 : fet (cdT 28) 10 = some (.aload_n 0, 0, 0) := by decide +kernel
theorem fX5_clear_11 : fet (cdT 28) 11 = some (.iconst 0, 0, 0) := by decide +kernel
theorem fX5_clear_12 : fet (cdT 28) 12 = some (.putfield 41, 5, 2) := by decide +kernel
theorem fX5_clear_15 : fet (cdT 28) 15 = some (.aload_n 0, 0, 0) := by decide +kernel
theorem fX5_clear_16 : fet (cdT 28) 16 = some (.lconst 0, 0, 0) := by decide +kernel
theorem fX5_clear_17 : fet (cdT 28) 17 = some (.putfield 44, 5, 3) := by decide +kernel
theorem fX5_clear_20 : fet (cdT 28) 20 = some (.iconst 0, 0, 0) := by decide +kernel
theorem fX5_clear_21 : fet (cdT 28) 21 = some (.istore_n 2, 0, 0) := by decide +kernel
theorem fX5_clear_22 : fet (cdT 28) 22 = some (.iload_n 2, 0, 0) := by decide +kernel
theorem fX5_clear_23 : fet (cdT 28) 23 = some (.bipush 8, 0, 0) := by decide +kernel
theorem fX5_clear_25 : fet (cdT 28) 25 = some (.if_icmp .ge 23, 0, 0) := by decide +kernel
theorem fX5_clear_28 : fet (cdT 28) 28 = some (.aload_n 0, 0, 0) := by decide +kernel
theorem fX5_clear_29 : fet (cdT 28) 29 = some (.getfield 15, 5, 4) := by decide +kernel
theorem fX5_clear_32 : fet (cdT 28) 32 = some (.iload_n 2, 0, 0) := by decide +kernel
theorem fX5_clear_33 : fet (cdT 28) 33 = some (.iconst 0, 0, 0) := by decide +kernel
theorem fX5_clear_34 : fet (cdT 28) 34 = some (.iastore, 0, 0) := by decide +kernel
theorem fX5_clear_35 : fet (cdT 28) 35 = some (.aload_n 0, 0, 0) := by decide +kernel
theorem fX5_clear_36 : fet (cdT 28) 36 = some (.getfield 19, 5, 5) := by decide +kernel
theorem fX5_clear_39 : fet (cdT 28) 39 = some (.iload_n 2, 0, 0) := by decide +kernel
theorem fX5_clear_40 : fet (cdT 28) 40 = some (.iconst 0, 0, 0) := by decide +kernel
theorem fX5_clear_41 : fet (cdT 28) 41 = some (.iastore, 0, 0) := by decide +kernel
theorem fX5_clear_42 : fet (cdT 28) 42 = some (.iinc 2 1, 0, 0) := by decide +kernel
theorem fX5_clear_45 : fet (cdT 28) 45 = some (.goto (-23), 0, 0) := by decide +kernel
theorem fX5_clear_48 : fet (cdT 28) 48 = some (.iconst 0, 0, 0) := by decide +kernel
theorem fX5_clear_49 : fet (cdT 28) 49 = some (.istore_n 2, 0, 0) := by decide +kernel
theorem fX5_clear_50 : fet (cdT 28) 50 = some (.iload_n 2, 0, 0) := by decide +kernel
theorem fX5_clear_51 : fet (cdT 28) 51 = some (.bipush 12, 0, 0) := by decide +kernel
theorem fX5_clear_53 : fet (cdT 28) 53 = some (.if_icmp .ge 16, 0, 0) := by decide +kernel
theorem fX5_clear_56 : fet (cdT 28) 56 = some (.aload_n 0, 0, 0) := by decide +kernel
theorem fX5_clear_57 : fet (cdT 28) 57 = some (.getfield 22, 5, 6) := by decide +kernel
theorem fX5_clear_60 : fet (cdT 28) 60 = some (.iload_n 2, 0, 0) := by decide +kernel
theorem fX5_clear_61 : fet (cdT 28) 61 = some (.iconst 0, 0, 0) := by decide +kernel
theorem fX5_clear_62 : fet (cdT 28) 62 = some (.iastore, 0, 0) := by decide +kernel
theorem fX5_clear_63 : fet (cdT 28) 63 = some (.iinc 2 1, 0, 0) := by decide +kernel
theorem fX5_clear_66 : fet (cdT 28) 66 = some (.goto (-16), 0, 0) := by decide +kernel
theorem fX5_clear_69 : fet (cdT 28) 69 = some (.iconst 0, 0, 0) := by decide +kernel
theorem fX5_clear_70 : fet (cdT 28) 70 = some (.istore_n 2, 0, 0) := by decide +kernel
theorem fX5_clear_71 : fet (cdT 28) 71 = some (.iload_n 2, 0, 0) := by decide +kernel
theorem fX5_clear_72 : fet (cdT 28) 72 = some (.bipush 40, 0, 0) := by decide +kernel
theorem fX5_clear_74 : fet (cdT 28) 74 = some (.if_icmp .ge 16, 0, 0) := by decide +kernel
theorem fX5_clear_77 : fet (cdT 28) 77 = some (.aload_n 0, 0, 0) := by decide +kernel
theorem fX5_clear_78 : fet (cdT 28) 78 = some (.getfield 25, 5, 7) := by decide +kernel
theorem fX5_clear_81 : fet (cdT 28) 81 = some (.iload_n 2, 0, 0) := by decide +kernel
theorem fX5_clear_82 : fet (cdT 28) 82 = some (.iconst 0, 0, 0) := by decide +kernel
theorem fX5_clear_83 : fet (cdT 28) 83 = some (.iastore, 0, 0) := by decide +kernel
theorem fX5_clear_84 : fet (cdT 28) 84 = some (.iinc 2 1, 0, 0) := by decide +kernel
theorem fX5_clear_87 : fet (cdT 28) 87 = some (.goto (-16), 0, 0) := by decide +kernel
theorem fX5_clear_90 : fet (cdT 28) 90 = some (.iconst 0, 0, 0) := by decide +kernel
theorem fX5_clear_91 : fet (cdT 28) 91 = some (.istore_n 2, 0, 0) := by decide +kernel
theorem fX5_clear_92 : fet (cdT 28) 92 = some (.iload_n 2, 0, 0) := by decide +kernel
theorem fX5_clear_93 : fet (cdT 28) 93 = some (.iconst 2, 0, 0) := by decide +kernel
theorem fX5_clear_94 : fet (cdT 28) 94 = some (.if_icmp .ge 16, 0, 0) := by decide +kernel
theorem fX5_clear_97 : fet (cdT 28) 97 = some (.aload_n 0, 0, 0) := by decide +kernel
theorem fX5_clear_98 : fet (cdT 28) 98 = some (.getfield 28, 5, 8) := by decide +kernel
theorem fX5_clear_101 : fet (cdT 28) 101 = some (.iload_n 2, 0, 0) := by decide +kernel
theorem fX5_clear_102 : fet (cdT 28) 102 = some (.iload_n 1, 0, 0) := by decide +kernel
theorem fX5_clear_103 : fet (cdT 28) 103 = some (.iastore, 0, 0) := by decide +kernel
theorem fX5_clear_104 : fet (cdT 28) 104 = some (.iinc 2 1, 0, 0) := by decide +kernel
theorem fX5_clear_107 : fet (cdT 28) 107 = some (.goto (-15), 0, 0) := by decide +kernel
theorem fX5_clear_110 : fet (cdT 28) 110 = some (.aload_n 0, 0, 0) := by decide +kernel
theorem fX5_clear_111 : fet (cdT 28) 111 = some (.getfield 34, 5, 9) := by decide +kernel
theorem fX5_clear_114 : fet (cdT 28) 114 = some (.invokevirtual 48, 0, 0) := by decide +kernel
theorem fX5_clear_117 : fet (cdT 28) 117 = some (.return_, 0, 0) := by decide +kernel
theorem fX5_copyFrom_0 : fet (cdT 29) 0 = some (.aload_n 0, 0, 0) := by decide +kernel
theorem fX5_copyFrom_1 : fet (cdT 29) 1 = some (.aload_n 1, 0, 0) := by decide +kernel
theorem fX5_copyFrom_2 : fet (cdT 29) 2 = some (.getfield 38, 5, 0) := by decide +kernel
theorem fX5_copyFrom_5 : fet (cdT 29) 5 = some (.putfield 38, 5, 0) := by decide +kernel
theorem fX5_copyFrom_8 : fet (cdT 29) 8 = some (.aload_n 0, 0, 0) := by decide +kernel
theorem fX5_copyFrom_9 : fet (cdT 29) 9 = some (.aload_n 1, 0, 0) := by decide +kernel
theorem fX5_copyFrom_10 : fet (cdT 29) 10 = some (.getfield 9, 5, 1) := by decide +kernel
theorem fX5_copyFrom_13 : fet (cdT 29) 13 = some (.putfield 9, 5, 1) := by decide +kernel
theorem fX5_copyFrom_16 : fet (cdT 29) 16 = some (.aload_n 0, 0, 0) := by decide +kernel
theorem fX5_copyFrom_17 : fet (cdT 29) 17 = some (.aload_n 1, 0, 0) := by decide +kernel
theorem fX5_copyFrom_18 : fet (cdT 29) 18 = some (.getfield 41, 5, 2) := by decide +kernel
theorem fX5_copyFrom_21 : fet (cdT 29) 21 = some (.putfield 41, 5, 2) := by decide +kernel
theorem fX5_copyFrom_24 : fet (cdT 29) 24 = some (.aload_n 0, 0, 0) := by decide +kernel
theorem fX5_copyFrom_25 : fet (cdT 29) 25 = some (.aload_n 1, 0, 0) := by decide +kernel
theorem fX5_copyFrom_26 : fet (cdT 29) 26 = some (.getfield 44, 5, 3) := by decide +kernel
theorem fX5_copyFrom_29 : fet (cdT 29) 29 = some (.putfield 44, 5, 3) := by decide +kernel
theorem fX5_copyFrom_32 : fet (cdT 29) 32 = some (.aload_n 1, 0, 0) := by decide +kernel
theorem fX5_copyFrom_33 : fet (cdT 29) 33 = some (.getfield 15, 5, 4) := by decide +kernel
theorem fX5_copyFrom_36 : fet (cdT 29) 36 = some (.iconst 0, 0, 0) := by decide +kernel
theorem fX5_copyFrom_37 : fet (cdT 29) 37 = some (.aload_n 0, 0, 0) := by decide +kernel
theorem fX5_copyFrom_38 : fet (cdT 29) 38 = some (.getfield 15, 5, 4) := by decide +kernel
theorem fX5_copyFrom_41 : fet (cdT 29) 41 = some (.iconst 0, 0, 0) := by decide +kernel
theorem fX5_copyFrom_42 : fet (cdT 29) 42 = some (.bipush 8, 0, 0) := by decide +kernel
theorem fX5_copyFrom_44 : fet (cdT 29) 44 = some (.invokestatic 51, 0, 4) := by decide +kernel
theorem fX5_copyFrom_47 : fet (cdT 29) 47 = some (.aload_n 1, 0, 0) := by decide +kernel
theorem fX5_copyFrom_48 : fet (cdT 29) 48 = some (.getfield 19, 5, 5) := by decide +kernel
theorem fX5_copyFrom_51 : fet (cdT 29) 51 = some (.iconst 0, 0, 0) := by decide +kernel
theorem fX5_copyFrom_52 : fet (cdT 29) 52 = some (.aload_n 0, 0, 0) := by decide +kernel
theorem fX5_copyFrom_53 : fet (cdT 29) 53 = some (.getfield 19, 5, 5) := by decide +kernel
theorem fX5_copyFrom_56 : fet (cdT 29) 56 = some (.iconst 0, 0, 0) := by decide +kernel
theorem fX5_copyFrom_57 : fet (cdT 29) 57 = some (.bipush 8, 0, 0) := by decide +kernel
theorem fX5_copyFrom_59 : fet (cdT 29) 59 = some (.invokestatic 51, 0, 4) := by decide +kernel
theorem fX5_copyFrom_62 : fet (cdT 29) 62 = some (.aload_n 1, 0, 0) := by decide +kernel
theorem fX5_copyFrom_63 : fet (cdT 29) 63 = some (.getfield 22, 5, 6) := by decide +kernel
theorem fX5_copyFrom_66 : fet (cdT 29) 66 = some (.iconst 0, 0, 0) := by decide +kernel
theorem fX5_copyFrom_67 : fet (cdT 29) 67 = some (.aload_n 0, 0, 0) := by decide +kernel
theorem fX5_copyFrom_68 : fet (cdT 29) 68 = some (.getfield 22, 5, 6) := by decide +kernel
theorem fX5_copyFrom_71 : fet (cdT 29) 71 = some (.iconst 0, 0, 0) := by decide +kernel
theorem fX5_copyFrom_72 : fet (cdT 29) 72 = some (.bipush 12, 0, 0) := by decide +kernel
theorem fX5_copyFrom_74 : fet (cdT 29) 74 = some (.invokestatic 51, 0, 4) := by decide +kernel
theorem fX5_copyFrom_77 : fet (cdT 29) 77 = some (.aload_n 1, 0, 0) := by decide +kernel
theorem fX5_copyFrom_78 : fet (cdT 29) 78 = some (.getfield 25, 5, 7) := by decide +kernel
theorem fX5_copyFrom_81 : fet (cdT 29) 81 = some (.iconst 0, 0, 0) := by decide +kernel
theorem fX5_copyFrom_82 : fet (cdT 29) 82 = some (.aload_n 0, 0, 0) := by decide +kernel
theorem fX5_copyFrom_83 : fet (cdT 29) 83 = some (.getfield 25, 5, 7) := by decide +kernel
theorem fX5_copyFrom_86 : fet (cdT 29) 86 = some (.iconst 0, 0, 0) := by decide +kernel
theorem fX5_copyFrom_87 : fet (cdT 29) 87 = some (.bipush 40, 0, 0) := by decide +kernel
theorem fX5_copyFrom_89 : fet (cdT 29) 89 = some (.invokestatic 51, 0, 4) := by decide +kernel
theorem fX5_copyFrom_92 : fet (cdT 29) 92 = some (.aload_n 1, 0, 0) := by decide +kernel
theorem fX5_copyFrom_93 : fet (cdT 29) 93 = some (.getfield 28, 5, 8) := by decide +kernel
theorem fX5_copyFrom_96 : fet (cdT 29) 96 = some (.iconst 0, 0, 0) := by decide +kernel
theorem fX5_copyFrom_97 : fet (cdT 29) 97 = some (.aload_n 0, 0, 0) := by decide +kernel
theorem fX5_copyFrom_98 : fet (cdT 29) 98 = some (.getfield 28, 5, 8) := by decide +kernel
theorem fX5_copyFrom_101 : fet (cdT 29) 101 = some (.iconst 0, 0, 0) := by decide +kernel
theorem fX5_copyFrom_102 : fet (cdT 29) 102 = some (.iconst 2, 0, 0) := by decide +kernel
theorem fX5_copyFrom_103 : fet (cdT 29) 103 = some (.invokestatic 51, 0, 4) := by decide +kernel
theorem fX5_copyFrom_106 : fet (cdT 29) 106 = some (.aload_n 0, 0, 0) := by decide +kernel
theorem fX5_copyFrom_107 : fet (cdT 29) 107 = some (.getfield 34, 5, 9) := by decide +kernel
theorem fX5_copyFrom_110 : fet (cdT 29) 110 = some (.aload_n 1, 0, 0) := by decide +kernel
theorem fX5_copyFrom_111 : fet (cdT 29) 111 = some (.getfield 34, 5, 9) := by decide +kernel
theorem fX5_copyFrom_114 : fet (cdT 29) 114 = some (.invokevirtual 57, 1, 0) := by decide +kernel
theorem fX5_copyFrom_117 : fet (cdT 29) 117 = some (.return_, 0, 0) := by decide +kernel
theorem fX5_didHold_0 : fet (cdT 30) 0 = some (.aload_n 0, 0, 0) := by decide +kernel
theorem fX5_didHold_1 : fet (cdT 30) 1 = some (.getfield 44, 5, 3) := by decide +kernel
theorem fX5_didHold_4 : fet (cdT 30) 4 = some (.iload_n 1, 0, 0) := by decide +kernel
theorem fX5_didHold_5 : fet (cdT 30) 5 = some (.lushr, 0, 0) := by decide +kernel
theorem fX5_didHold_6 : fet (cdT 30) 6 = some (.lconst 1, 0, 0) := by decide +kernel
theorem fX5_didHold_7 : fet (cdT 30) 7 = some (.land, 0, 0) := by decide +kernel
theorem fX5_didHold_8 : fet (cdT 30) 8 = some (.lconst 1, 0, 0) := by decide +kernel
theorem fX5_didHold_9 : fet (cdT 30) 9 = some (.lcmp, 0, 0) := by decide +kernel
theorem fX5_didHold_10 : fet (cdT 30) 10 = some (.ifCond .ne 7, 0, 0) := by decide +kernel
theorem fX5_didHold_13 : fet (cdT 30) 13 = some (.iconst 1, 0, 0) := by decide +kernel
theorem fX5_didHold_14 : fet (cdT 30) 14 = some (.goto 4, 0, 0) := by decide +kernel
theorem fX5_didHold_17 : fet (cdT 30) 17 = some (.iconst 0, 0, 0) := by decide +kernel
theorem fX5_didHold_18 : fet (cdT 30) 18 = some (.ireturn, 0, 0) := by decide +kernel
theorem fX5_keepHolding_0 : fet (cdT 31) 0 = some (.aload_n 0, 0, 0) := by decide +kernel
theorem fX5_keepHolding_1 : fet (cdT 31) 1 = some (.iload_n 2, 0, 0) := by decide +kernel
theorem fX5_keepHolding_2 : fet (cdT 31) 2 = some (.ifCond .eq 14, 0, 0) := by decide +kernel
theorem fX5_keepHolding_5 : fet (cdT 31) 5 = some (.aload_n 0, 0, 0) := by decide +kernel
theorem fX5_keepHolding_6 : fet (cdT 31) 6 = some (.getfield 44, 5, 3) := by decide +kernel
theorem fX5_keepHolding_9 : fet (cdT 31) 9 = some (.lconst 1, 0, 0) := by decide +kernel
theorem fX5_keepHolding_10 : fet (cdT 31) 10 = some (.iload_n 1, 0, 0) := by decide +kernel
theorem fX5_keepHolding_11 : fet (cdT 31) 11 = some (.lshl, 0, 0) := by decide +kernel
theorem fX5_keepHolding_12 : fet (cdT 31) 12 = some (.lor, 0, 0) := by decide +kernel
theorem fX5_keepHolding_13 : fet (cdT 31) 13 = some (.goto 15, 0, 0) := by decide +kernel
theorem fX5_keepHolding_16 : fet (cdT 31) 16 = some (.aload_n 0, 0, 0) := by decide +kernel
theorem fX5_keepHolding_17 : fet (cdT 31) 17 = some (.getfield 44, 5, 3) := by decide +kernel
theorem fX5_keepHolding_20 : fet (cdT 31) 20 = some (.lconst 1, 0, 0) := by decide +kernel
theorem fX5_keepHolding_21 : fet (cdT 31) 21 = some (.iload_n 1, 0, 0) := by decide +kernel
theorem fX5_keepHolding_22 : fet (cdT 31) 22 = some (.lshl, 0, 0) := by decide +kernel
theorem fX5_keepHolding_23 : fet (cdT 31) 23 = some (.ldc2_w 61, 1, 0) := by decide +kernel
theorem fX5_keepHolding_26 : fet (cdT 31) 26 = some (.lxor, 0, 0) := by decide +kernel
theorem fX5_keepHolding_27 : fet (cdT 31) 27 = some (.land, 0, 0) := by decide +kernel
theorem fX5_keepHolding_28 : fet (cdT 31) 28 = some (.putfield 44, 5, 3) := by decide +kernel
theorem fX5_keepHolding_31 : fet (cdT 31) 31 = some (.return_, 0, 0) := by decide +kernel
theorem fX5_write_0 : fet (cdT 32) 0 = some (.aload_n 0, 0, 0) := by decide +kernel
theorem fX5_write_1 : fet (cdT 32) 1 = some (.iload_n 2, 0, 0) := by decide +kernel
theorem fX5_write_2 : fet (cdT 32) 2 = some (.ifCond .eq 14, 0, 0) := by decide +kernel
theorem fX5_write_5 : fet (cdT 32) 5 = some (.aload_n 0, 0, 0) := by decide +kernel
theorem fX5_write_6 : fet (cdT 32) 6 = some (.getfield 38, 5, 0) := by decide +kernel
theorem fX5_write_9 : fet (cdT 32) 9 = some (.iconst 1, 0, 0) := by decide +kernel
theorem fX5_write_10 : fet (cdT 32) 10 = some (.iload_n 1, 0, 0) := by decide +kernel
theorem fX5_write_11 : fet (cdT 32) 11 = some (.ishl, 0, 0) := by decide +kernel
theorem fX5_write_12 : fet (cdT 32) 12 = some (.ior, 0, 0) := by decide +kernel
theorem fX5_write_13 : fet (cdT 32) 13 = some (.goto 13, 0, 0) := by decide +kernel
theorem fX5_write_16 : fet (cdT 32) 16 = some (.aload_n 0, 0, 0) := by decide +kernel
theorem fX5_write_17 : fet (cdT 32) 17 = some (.getfield 38, 5, 0) := by decide +kernel
theorem fX5_write_20 : fet (cdT 32) 20 = some (.iconst 1, 0, 0) := by decide +kernel
theorem fX5_write_21 : fet (cdT 32) 21 = some (.iload_n 1, 0, 0) := by decide +kernel
theorem fX5_write_22 : fet (cdT 32) 22 = some (.ishl, 0, 0) := by decide +kernel
theorem fX5_write_23 : fet (cdT 32) 23 = some (.iconst (-1), 0, 0) := by decide +kernel
theorem fX5_write_24 : fet (cdT 32) 24 = some (.ixor, 0, 0) := by decide +kernel
theorem fX5_write_25 : fet (cdT 32) 25 = some (.iand, 0, 0) := by decide +kernel
theorem fX5_write_26 : fet (cdT 32) 26 = some (.putfield 38, 5, 0) := by decide +kernel
theorem fX5_write_29 : fet (cdT 32) 29 = some (.return_, 0, 0) := by decide +kernel
theorem fX6_copyFrom_0 : fet (cdT 33) 0 = some (.aload_n 0, 0, 0) := by decide +kernel
theorem fX6_copyFrom_1 : fet (cdT 33) 1 = some (.aload_n 1, 0, 0) := by decide +kernel
theorem fX6_copyFrom_2 : fet (cdT 33) 2 = some (.getfield 22, 6, 0) := by decide +kernel
theorem fX6_copyFrom_5 : fet (cdT 33) 5 = some (.putfield 22, 6, 0) := by decide +kernel
theorem fX6_copyFrom_8 : fet (cdT 33) 8 = some (.iconst 0, 0, 0) := by decide +kernel
theorem fX6_copyFrom_9 : fet (cdT 33) 9 = some (.istore_n 2, 0, 0) := by decide +kernel
theorem fX6_copyFrom_10 : fet (cdT 33) 10 = some (.iload_n 2, 0, 0) := by decide +kernel
theorem fX6_copyFrom_11 : fet (cdT 33) 11 = some (.iconst 3, 0, 0) := by decide +kernel
theorem fX6_copyFrom_12 : fet (cdT 33) 12 = some (.if_icmp .ge 45, 0, 0) := by decide +kernel
theorem fX6_copyFrom_15 : fet (cdT 33) 15 = some (.aload_n 0, 0, 0) := by decide +kernel
theorem fX6_copyFrom_16 : fet (cdT 33) 16 = some (.getfield 9, 6, 1) := by decide +kernel
theorem fX6_copyFrom_19 : fet (cdT 33) 19 = some (.iload_n 2, 0, 0) := by decide +kernel
theorem fX6_copyFrom_20 : fet (cdT 33) 20 = some (.aload_n 1, 0, 0) := by decide +kernel
theorem fX6_copyFrom_21 : fet (cdT 33) 21 = some (.getfield 9, 6, 1) := by decide +kernel
theorem fX6_copyFrom_24 : fet (cdT 33) 24 = some (.iload_n 2, 0, 0) := by decide +kernel
theorem fX6_copyFrom_25 : fet (cdT 33) 25 = some (.caload, 0, 0) := by decide +kernel
theorem fX6_copyFrom_26 : fet (cdT 33) 26 = some (.castore, 0, 0) := by decide +kernel
theorem fX6_copyFrom_27 : fet (cdT 33) 27 = some (.aload_n 0, 0, 0) := by decide +kernel
theorem fX6_copyFrom_28 : fet (cdT 33) 28 = some (.getfield 15, 6, 2) := by decide +kernel
theorem fX6_copyFrom_31 : fet (cdT 33) 31 = some (.iload_n 2, 0, 0) := by decide +kernel
theorem fX6_copyFrom_32 : fet (cdT 33) 32 = some (.aload_n 1, 0, 0) := by decide +kernel
theorem fX6_copyFrom_33 : fet (cdT 33) 33 = some (.getfield 15, 6, 2) := by decide +kernel
theorem fX6_copyFrom_36 : fet (cdT 33) 36 = some (.iload_n 2, 0, 0) := by decide +kernel
theorem fX6_copyFrom_37 : fet (cdT 33) 37 = some (.iaload, 0, 0) := by decide +kernel
theorem fX6_copyFrom_38 : fet (cdT 33) 38 = some (.iastore, 0, 0) := by decide +kernel
theorem fX6_copyFrom_39 : fet (cdT 33) 39 = some (.aload_n 0, 0, 0) := by decide +kernel
theorem fX6_copyFrom_40 : fet (cdT 33) 40 = some (.getfield 19, 6, 3) := by decide +kernel
theorem fX6_copyFrom_43 : fet (cdT 33) 43 = some (.iload_n 2, 0, 0) := by decide +kernel
theorem fX6_copyFrom_44 : fet (cdT 33) 44 = some (.aload_n 1, 0, 0) := by decide +kernel
theorem fX6_copyFrom_45 : fet (cdT 33) 45 = some (.getfield 19, 6, 3) := by decide +kernel
theorem fX6_copyFrom_48 : fet (cdT 33) 48 = some (.iload_n 2, 0, 0) := by decide +kernel
theorem fX6_copyFrom_49 : fet (cdT 33) 49 = some (.iaload, 0, 0) := by decide +kernel
theorem fX6_copyFrom_50 : fet (cdT 33) 50 = some (.iastore, 0, 0) := by decide +kernel
theorem fX6_copyFrom_51 : fet (cdT 33) 51 = some (.iinc 2 1, 0, 0) := by decide +kernel
theorem fX6_copyFrom_54 : fet (cdT 33) 54 = some (.goto (-44), 0, 0) := by decide +kernel
theorem fX6_copyFrom_57 : fet (cdT 33) 57 = some (.return_, 0, 0) := by decide +kernel
theorem fX7_isDueAt_0 : fet (cdT 34) 0 = some (.aload_n 0, 0, 0) := by decide +kernel
theorem fX7_isDueAt_1 : fet (cdT 34) 1 = some (.getfield 15, 7, 0) := by decide +kernel
theorem fX7_isDueAt_4 : fet (cdT 34) 4 = some (.ifCond .le 16, 0, 0) := by decide +kernel
theorem fX7_isDueAt_7 : fet (cdT 34) 7 = some (.iload_n 1, 0, 0) := by decide +kernel
theorem fX7_isDueAt_8 : fet (cdT 34) 8 = some (.aload_n 0, 0, 0) := by decide +kernel
theorem fX7_isDueAt_9 : fet (cdT 34) 9 = some (.getfield 15, 7, 0) := by decide +kernel
theorem fX7_isDueAt_12 : fet (cdT 34) 12 = some (.irem, 0, 0) := by decide +kernel
theorem fX7_isDueAt_13 : fet (cdT 34) 13 = some (.ifCond .ne 7, 0, 0) := by decide +kernel
theorem fX7_isDueAt_16 : fet (cdT 34) 16 = some (.iconst 1, 0, 0) := by decide +kernel
theorem fX7_isDueAt_17 : fet (cdT 34) 17 = some (.goto 4, 0, 0) := by decide +kernel
theorem fX7_isDueAt_20 : fet (cdT 34) 20 = some (.iconst 0, 0, 0) := by decide +kernel
theorem fX7_isDueAt_21 : fet (cdT 34) 21 = some (.ireturn, 0, 0) := by decide +kernel
theorem fX8_copyFrom_0 : fet (cdT 35) 0 = some (.aload_n 0, 0, 0) := by decide +kernel
theorem fX8_copyFrom_1 : fet (cdT 35) 1 = some (.aload_n 1, 0, 0) := by decide +kernel
theorem fX8_copyFrom_2 : fet (cdT 35) 2 = some (.getfield 7, 8, 0) := by decide +kernel
theorem fX8_copyFrom_5 : fet (cdT 35) 5 = some (.putfield 7, 8, 0) := by decide +kernel
theorem fX8_copyFrom_8 : fet (cdT 35) 8 = some (.aload_n 0, 0, 0) := by decide +kernel
theorem fX8_copyFrom_9 : fet (cdT 35) 9 = some (.aload_n 1, 0, 0) := by decide +kernel
theorem fX8_copyFrom_10 : fet (cdT 35) 10 = some (.getfield 13, 8, 1) := by decide +kernel
theorem fX8_copyFrom_13 : fet (cdT 35) 13 = some (.putfield 13, 8, 1) := by decide +kernel
theorem fX8_copyFrom_16 : fet (cdT 35) 16 = some (.aload_n 0, 0, 0) := by decide +kernel
theorem fX8_copyFrom_17 : fet (cdT 35) 17 = some (.aload_n 1, 0, 0) := by decide +kernel
theorem fX8_copyFrom_18 : fet (cdT 35) 18 = some (.getfield 16, 8, 2) := by decide +kernel
theorem fX8_copyFrom_21 : fet (cdT 35) 21 = some (.putfield 16, 8, 2) := by decide +kernel
theorem fX8_copyFrom_24 : fet (cdT 35) 24 = some (.aload_n 0, 0, 0) := by decide +kernel
theorem fX8_copyFrom_25 : fet (cdT 35) 25 = some (.aload_n 1, 0, 0) := by decide +kernel
theorem fX8_copyFrom_26 : fet (cdT 35) 26 = some (.getfield 19, 8, 3) := by decide +kernel
theorem fX8_copyFrom_29 : fet (cdT 35) 29 = some (.putfield 19, 8, 3) := by decide +kernel
theorem fX8_copyFrom_32 : fet (cdT 35) 32 = some (.return_, 0, 0) := by decide +kernel
theorem fX9_rung_0 : fet (cdT 36) 0 = some (.iload_n 1, 0, 0) := by decide +kernel
theorem fX9_rung_1 : fet (cdT 36) 1 = some (.invokestatic 56, 76, 1) := by decide +kernel
theorem fX9_rung_4 : fet (cdT 36) 4 = some (.ifCond .eq 16, 0, 0) := by decide +kernel
theorem fX9_rung_7 : fet (cdT 36) 7 = some (.ldc 60, 2, 0) := by decide +kernel
theorem fX9_rung_9 : fet (cdT 36) 9 = some (.iload_n 2, 0, 0) := by decide +kernel
theorem fX9_rung_10 : fet (cdT 36) 10 = some (.invokevirtual 62, 107, 0) := by decide +kernel
theorem fX9_rung_13 : fet (cdT 36) 13 = some (.ifCond .lt 7, 0, 0) := by decide +kernel
theorem fX9_rung_16 : fet (cdT 36) 16 = some (.iconst 1, 0, 0) := by decide +kernel
theorem fX9_rung_17 : fet (cdT 36) 17 = some (.goto 4, 0, 0) := by decide +kernel
theorem fX9_rung_20 : fet (cdT 36) 20 = some (.iconst 0, 0, 0) := by decide +kernel
theorem fX9_rung_21 : fet (cdT 36) 21 = some (.invokestatic 68, 74, 1) := by decide +kernel
theorem fX9_rung_24 : fet (cdT 36) 24 = some (.iload_n 2, 0, 0) := by decide +kernel
theorem fX9_rung_25 : fet (cdT 36) 25 = some (.iload_n 3, 0, 0) := by decide +kernel
theorem fX9_rung_26 : fet (cdT 36) 26 = some (.invokestatic 72, 81, 1) := by decide +kernel
theorem fX9_rung_29 : fet (cdT 36) 29 = some (.ifCond .eq 16, 0, 0) := by decide +kernel
theorem fX9_rung_32 : fet (cdT 36) 32 = some (.iload_n 2, 0, 0) := by decide +kernel
theorem fX9_rung_33 : fet (cdT 36) 33 = some (.iload 4, 0, 0) := by decide +kernel
theorem fX9_rung_35 : fet (cdT 36) 35 = some (.invokestatic 76, 82, 1) := by decide +kernel
theorem fX9_rung_38 : fet (cdT 36) 38 = some (.ifCond .eq 7, 0, 0) := by decide +kernel
theorem fX9_rung_41 : fet (cdT 36) 41 = some (.iconst 1, 0, 0) := by decide +kernel
theorem fX9_rung_42 : fet (cdT 36) 42 = some (.goto 4, 0, 0) := by decide +kernel
theorem fX9_rung_45 : fet (cdT 36) 45 = some (.iconst 0, 0, 0) := by decide +kernel
theorem fX9_rung_46 : fet (cdT 36) 46 = some (.invokestatic 68, 74, 1) := by decide +kernel
theorem fX9_rung_49 : fet (cdT 36) 49 = some (.aload_n 0, 0, 0) := by decide +kernel
theorem fX9_rung_50 : fet (cdT 36) 50 = some (.getfield 16, 9, 1) := by decide +kernel
theorem fX9_rung_53 : fet (cdT 36) 53 = some (.getfield 79, 2, 0) := by decide +kernel
theorem fX9_rung_56 : fet (cdT 36) 56 = some (.bipush 40, 0, 0) := by decide +kernel
theorem fX9_rung_58 : fet (cdT 36) 58 = some (.if_icmp .lt 11, 0, 0) := by decide +kernel
theorem fX9_rung_61 : fet (cdT 36) 61 = some (.new 82, 4, 1) := by decide +kernel
theorem fX9_rung_69 : fet (cdT 36) 69 = some (.aload_n 0, 0, 0) := by decide +kernel
theorem fX9_rung_70 : fet (cdT 36) 70 = some (.getfield 16, 9, 1) := by decide +kernel
theorem fX9_rung_73 : fet (cdT 36) 73 = some (.getfield 85, 2, 3) := by decide +kernel
theorem fX9_rung_76 : fet (cdT 36) 76 = some (.aload_n 0, 0, 0) := by decide +kernel
theorem fX9_rung_77 : fet (cdT 36) 77 = some (.getfield 16, 9, 1) := by decide +kernel
theorem fX9_rung_80 : fet (cdT 36) 80 = some (.getfield 79, 2, 0) := by decide +kernel
theorem fX9_rung_83 : fet (cdT 36) 83 = some (.aaload, 0, 0) := by decide +kernel
theorem fX9_rung_84 : fet (cdT 36) 84 = some (.astore 5, 0, 0) := by decide +kernel
theorem fX9_rung_86 : fet (cdT 36) 86 = some (.aload 5, 0, 0) := by decide +kernel
theorem fX9_rung_88 : fet (cdT 36) 88 = some (.iload_n 1, 0, 0) := by decide +kernel
theorem fX9_rung_89 : fet (cdT 36) 89 = some (.putfield 89, 3, 0) := by decide +kernel
theorem fX9_rung_92 : fet (cdT 36) 92 = some (.aload 5, 0, 0) := by decide +kernel
theorem fX9_rung_94 : fet (cdT 36) 94 = some (.iload_n 2, 0, 0) := by decide +kernel
theorem fX9_rung_95 : fet (cdT 36) 95 = some (.putfield 94, 3, 1) := by decide +kernel
theorem fX9_rung_98 : fet (cdT 36) 98 = some (.aload 5, 0, 0) := by decide +kernel
theorem fX9_rung_100 : fet (cdT 36) 100 = some (.iload_n 3, 0, 0) := by decide +kernel
theorem fX9_rung_101 : fet (cdT 36) 101 = some (.putfield 98, 3, 2) := by decide +kernel
theorem fX9_rung_104 : fet (cdT 36) 104 = some (.aload 5, 0, 0) := by decide +kernel
theorem fX9_rung_106 : fet (cdT 36) 106 = some (.iload 4, 0, 0) := by decide +kernel
theorem fX9_rung_108 : fet (cdT 36) 108 = some (.putfield 101, 3, 3) := by decide +kernel
theorem fX9_rung_111 : fet (cdT 36) 111 = some (.aload 5, 0, 0) := by decide +kernel
theorem fX9_rung_113 : fet (cdT 36) 113 = some (.iconst 0, 0, 0) := by decide +kernel
theorem fX9_rung_114 : fet (cdT 36) 114 = some (.putfield 104, 3, 4) := by decide +kernel
theorem fX9_rung_117 : fet (cdT 36) 117 = some (.aload_n 0, 0, 0) := by decide +kernel
theorem fX9_rung_118 : fet (cdT 36) 118 = some (.getfield 16, 9, 1) := by decide +kernel
theorem fX9_rung_121 : fet (cdT 36) 121 = some (.dup, 0, 0) := by decide +kernel
theorem fX9_rung_122 : fet (cdT 36) 122 = some (.getfield 79, 2, 0) := by decide +kernel
theorem fX9_rung_125 : fet (cdT 36) 125 = some (.iconst 1, 0, 0) := by decide +kernel
theorem fX9_rung_126 : fet (cdT 36) 126 = some (.iadd, 0, 0) := by decide +kernel
theorem fX9_rung_127 : fet (cdT 36) 127 = some (.putfield 79, 2, 0) := by decide +kernel
theorem fX9_rung_130 : fet (cdT 36) 130 = some (.aload_n 0, 0, 0) := by decide +kernel
theorem fX9_rung_131 : fet (cdT 36) 131 = some (.getfield 16, 9, 1) := by decide +kernel
theorem fX9_rung_134 : fet (cdT 36) 134 = some (.getfield 79, 2, 0) := by decide +kernel
theorem fX9_rung_137 : fet (cdT 36) 137 = some (.iconst 1, 0, 0) := by decide +kernel
theorem fX9_rung_138 : fet (cdT 36) 138 = some (.isub, 0, 0) := by decide +kernel
theorem fX9_rung_139 : fet (cdT 36) 139 = some (.ireturn, 0, 0) := by decide +kernel
theorem fX9_contact_0 : fet (cdT 37) 0 = some (.aload_n 0, 0, 0) := by decide +kernel
theorem fX9_contact_1 : fet (cdT 37) 1 = some (.getfield 16, 9, 1) := by decide +kernel
theorem fX9_contact_4 : fet (cdT 37) 4 = some (.iload_n 1, 0, 0) := by decide +kernel
theorem fX9_contact_5 : fet (cdT 37) 5 = some (.invokevirtual 107, 18, 0) := by decide +kernel
theorem fX9_contact_8 : fet (cdT 37) 8 = some (.ifCond .ne 11, 0, 0) := by decide +kernel
theorem fX9_contact_11 : fet (cdT 37) 11 = some (.new 110, 3, 1) := by decide +kernel
theorem fX9_contact_19 : fet (cdT 37) 19 = some (.ldc 113, 2, 1) := by decide +kernel
theorem fX9_contact_21 : fet (cdT 37) 21 = some (.iload_n 2, 0, 0) := by decide +kernel
theorem fX9_contact_22 : fet (cdT 37) 22 = some (.invokevirtual 62, 107, 0) := by decide +kernel
theorem fX9_contact_25 : fet (cdT 37) 25 = some (.ifCond .lt 14, 0, 0) := by decide +kernel
theorem fX9_contact_28 : fet (cdT 37) 28 = some (.iload_n 3, 0, 0) := by decide +kernel
theorem fX9_contact_29 : fet (cdT 37) 29 = some (.invokestatic 115, 78, 1) := by decide +kernel
theorem fX9_contact_32 : fet (cdT 37) 32 = some (.ifCond .eq 7, 0, 0) := by decide +kernel
theorem fX9_contact_35 : fet (cdT 37) 35 = some (.iconst 1, 0, 0) := by decide +kernel
theorem fX9_contact_36 : fet (cdT 37) 36 = some (.goto 4, 0, 0) := by decide +kernel
theorem fX9_contact_39 : fet (cdT 37) 39 = some (.iconst 0, 0, 0) := by decide +kernel
theorem fX9_contact_40 : fet (cdT 37) 40 = some (.invokestatic 68, 74, 1) := by decide +kernel
theorem fX9_contact_43 : fet (cdT 37) 43 = some (.aload_n 0, 0, 0) := by decide +kernel
theorem fX9_contact_44 : fet (cdT 37) 44 = some (.getfield 16, 9, 1) := by decide +kernel
theorem fX9_contact_47 : fet (cdT 37) 47 = some (.getfield 85, 2, 3) := by decide +kernel
theorem fX9_contact_50 : fet (cdT 37) 50 = some (.iload_n 1, 0, 0) := by decide +kernel
theorem fX9_contact_51 : fet (cdT 37) 51 = some (.aaload, 0, 0) := by decide +kernel
theorem fX9_contact_52 : fet (cdT 37) 52 = some (.astore 4, 0, 0) := by decide +kernel
theorem fX9_contact_54 : fet (cdT 37) 54 = some (.aload 4, 0, 0) := by decide +kernel
theorem fX9_contact_56 : fet (cdT 37) 56 = some (.getfield 104, 3, 4) := by decide +kernel
theorem fX9_contact_59 : fet (cdT 37) 59 = some (.iconst 4, 0, 0) := by decide +kernel
theorem fX9_contact_60 : fet (cdT 37) 60 = some (.if_icmp .lt 11, 0, 0) := by decide +kernel
theorem fX9_contact_63 : fet (cdT 37) 63 = some (.new 82, 4, 1) := by decide +kernel
theorem fX9_contact_71 : fet (cdT 37) 71 = some (.aload 4, 0, 0) := by decide +kernel
theorem fX9_contact_73 : fet (cdT 37) 73 = some (.getfield 118, 3, 5) := by decide +kernel
theorem fX9_contact_76 : fet (cdT 37) 76 = some (.aload 4, 0, 0) := by decide +kernel
theorem fX9_contact_78 : fet (cdT 37) 78 = some (.getfield 104, 3, 4) := by decide +kernel
theorem fX9_contact_81 : fet (cdT 37) 81 = some (.iload_n 2, 0, 0) := by decide +kernel
theorem fX9_contact_82 : fet (cdT 37) 82 = some (.castore, 0, 0) := by decide +kernel
theorem fX9_contact_83 : fet (cdT 37) 83 = some (.aload 4, 0, 0) := by decide +kernel
theorem fX9_contact_85 : fet (cdT 37) 85 = some (.getfield 122, 3, 6) := by decide +kernel
theorem fX9_contact_88 : fet (cdT 37) 88 = some (.aload 4, 0, 0) := by decide +kernel
theorem fX9_contact_90 : fet (cdT 37) 90 = some (.getfield 104, 3, 4) := by decide +kernel
theorem fX9_contact_93 : fet (cdT 37) 93 = some (.iload_n 3, 0, 0) := by decide +kernel
theorem fX9_contact_94 : fet (cdT 37) 94 = some (.iastore, 0, 0) := by decide +kernel
theorem fX9_contact_95 : fet (cdT 37) 95 = some (.aload 4, 0, 0) := by decide +kernel
theorem fX9_contact_97 : fet (cdT 37) 97 = some (.dup, 0, 0) := by decide +kernel
theorem fX9_contact_98 : fet (cdT 37) 98 = some (.getfield 104, 3, 4) := by decide +kernel
theorem fX9_contact_101 : fet (cdT 37) 101 = some (.iconst 1, 0, 0) := by decide +kernel
theorem fX9_contact_102 : fet (cdT 37) 102 = some (.iadd, 0, 0) := by decide +kernel
theorem fX9_contact_103 : fet (cdT 37) 103 = some (.putfield 104, 3, 4) := by decide +kernel
theorem fX9_contact_106 : fet (cdT 37) 106 = some (.aload 4, 0, 0) := by decide +kernel
theorem fX9_contact_108 : fet (cdT 37) 108 = some (.getfield 104, 3, 4) := by decide +kernel
theorem fX9_contact_111 : fet (cdT 37) 111 = some (.ireturn, 0, 0) := by decide +kernel
theorem fX9_step_0 : fet (cdT 38) 0 = some (.aload_n 0, 0, 0) := by decide +kernel
theorem fX9_step_1 : fet (cdT 38) 1 = some (.getfield 16, 9, 1) := by decide +kernel
theorem fX9_step_4 : fet (cdT 38) 4 = some (.getfield 126, 2, 1) := by decide +kernel
theorem fX9_step_7 : fet (cdT 38) 7 = some (.bipush 12, 0, 0) := by decide +kernel
theorem fX9_step_9 : fet (cdT 38) 9 = some (.if_icmp .lt 11, 0, 0) := by decide +kernel
theorem fX9_step_12 : fet (cdT 38) 12 = some (.new 82, 4, 1) := by decide +kernel
theorem fX9_step_20 : fet (cdT 38) 20 = some (.aload_n 0, 0, 0) := by decide +kernel
theorem fX9_step_21 : fet (cdT 38) 21 = some (.getfield 16, 9, 1) := by decide +kernel
theorem fX9_step_24 : fet (cdT 38) 24 = some (.getfield 129, 2, 4) := by decide +kernel
theorem fX9_step_27 : fet (cdT 38) 27 = some (.aload_n 0, 0, 0) := by decide +kernel
theorem fX9_step_28 : fet (cdT 38) 28 = some (.getfield 16, 9, 1) := by decide +kernel
theorem fX9_step_31 : fet (cdT 38) 31 = some (.getfield 126, 2, 1) := by decide +kernel
theorem fX9_step_34 : fet (cdT 38) 34 = some (.aaload, 0, 0) := by decide +kernel
theorem fX9_step_35 : fet (cdT 38) 35 = some (.iconst 0, 0, 0) := by decide +kernel
theorem fX9_step_36 : fet (cdT 38) 36 = some (.putfield 133, 6, 0) := by decide +kernel
theorem fX9_step_39 : fet (cdT 38) 39 = some (.aload_n 0, 0, 0) := by decide +kernel
theorem fX9_step_40 : fet (cdT 38) 40 = some (.getfield 16, 9, 1) := by decide +kernel
theorem fX9_step_43 : fet (cdT 38) 43 = some (.dup, 0, 0) := by decide +kernel
theorem fX9_step_44 : fet (cdT 38) 44 = some (.getfield 126, 2, 1) := by decide +kernel
theorem fX9_step_47 : fet (cdT 38) 47 = some (.iconst 1, 0, 0) := by decide +kernel
theorem fX9_step_48 : fet (cdT 38) 48 = some (.iadd, 0, 0) := by decide +kernel
theorem fX9_step_49 : fet (cdT 38) 49 = some (.putfield 126, 2, 1) := by decide +kernel
theorem fX9_step_52 : fet (cdT 38) 52 = some (.aload_n 0, 0, 0) := by decide +kernel
theorem fX9_step_53 : fet (cdT 38) 53 = some (.getfield 16, 9, 1) := by decide +kernel
theorem fX9_step_56 : fet (cdT 38) 56 = some (.getfield 126, 2, 1) := by decide +kernel
theorem fX9_step_59 : fet (cdT 38) 59 = some (.iconst 1, 0, 0) := by decide +kernel
theorem fX9_step_60 : fet (cdT 38) 60 = some (.isub, 0, 0) := by decide +kernel
theorem fX9_step_61 : fet (cdT 38) 61 = some (.ireturn, 0, 0) := by decide +kernel
theorem fX9_action_0 : fet (cdT 39) 0 = some (.aload_n 0, 0, 0) := by decide +kernel
theorem fX9_action_1 : fet (cdT 39) 1 = some (.getfield 16, 9, 1) := by decide +kernel
theorem fX9_action_4 : fet (cdT 39) 4 = some (.iload_n 1, 0, 0) := by decide +kernel
theorem fX9_action_5 : fet (cdT 39) 5 = some (.invokevirtual 138, 19, 0) := by decide +kernel
theorem fX9_action_8 : fet (cdT 39) 8 = some (.ifCond .ne 11, 0, 0) := by decide +kernel
theorem fX9_action_11 : fet (cdT 39) 11 = some (.new 110, 3, 1) := by decide +kernel
theorem fX9_action_19 : fet (cdT 39) 19 = some (.ldc 141, 2, 2) := by decide +kernel
theorem fX9_action_21 : fet (cdT 39) 21 = some (.iload_n 2, 0, 0) := by decide +kernel
theorem fX9_action_22 : fet (cdT 39) 22 = some (.invokevirtual 62, 107, 0) := by decide +kernel
theorem fX9_action_25 : fet (cdT 39) 25 = some (.ifCond .lt 14, 0, 0) := by decide +kernel
theorem fX9_action_28 : fet (cdT 39) 28 = some (.iload_n 3, 0, 0) := by decide +kernel
theorem fX9_action_29 : fet (cdT 39) 29 = some (.invokestatic 143, 79, 1) := by decide +kernel
theorem fX9_action_32 : fet (cdT 39) 32 = some (.ifCond .eq 7, 0, 0) := by decide +kernel
theorem fX9_action_35 : fet (cdT 39) 35 = some (.iconst 1, 0, 0) := by decide +kernel
theorem fX9_action_36 : fet (cdT 39) 36 = some (.goto 4, 0, 0) := by decide +kernel
theorem fX9_action_39 : fet (cdT 39) 39 = some (.iconst 0, 0, 0) := by decide +kernel
theorem fX9_action_40 : fet (cdT 39) 40 = some (.invokestatic 68, 74, 1) := by decide +kernel
theorem fX9_action_43 : fet (cdT 39) 43 = some (.iload_n 2, 0, 0) := by decide +kernel
theorem fX9_action_44 : fet (cdT 39) 44 = some (.bipush 100, 0, 0) := by decide +kernel
theorem fX9_action_46 : fet (cdT 39) 46 = some (.if_icmp .eq 9, 0, 0) := by decide +kernel
theorem fX9_action_49 : fet (cdT 39) 49 = some (.iload_n 2, 0, 0) := by decide +kernel
theorem fX9_action_50 : fet (cdT 39) 50 = some (.bipush 108, 0, 0) := by decide +kernel
theorem fX9_action_52 : fet (cdT 39) 52 = some (.if_icmp .ne 15, 0, 0) := by decide +kernel
theorem fX9_action_55 : fet (cdT 39) 55 = some (.iload 4, 0, 0) := by decide +kernel
theorem fX9_action_57 : fet (cdT 39) 57 = some (.iconst 1, 0, 0) := by decide +kernel
theorem fX9_action_58 : fet (cdT 39) 58 = some (.sipush 999, 0, 0) := by decide +kernel
theorem fX9_action_61 : fet (cdT 39) 61 = some (.invokestatic 146, 75, 1) := by decide +kernel
theorem fX9_action_64 : fet (cdT 39) 64 = some (.ifCond .eq 7, 0, 0) := by decide +kernel
theorem fX9_action_67 : fet (cdT 39) 67 = some (.iconst 1, 0, 0) := by decide +kernel
theorem fX9_action_68 : fet (cdT 39) 68 = some (.goto 4, 0, 0) := by decide +kernel
theorem fX9_action_71 : fet (cdT 39) 71 = some (.iconst 0, 0, 0) := by decide +kernel
theorem fX9_action_72 : fet (cdT 39) 72 = some (.invokestatic 68, 74, 1) := by decide +kernel
theorem fX9_action_75 : fet (cdT 39) 75 = some (.aload_n 0, 0, 0) := by decide +kernel
theorem fX9_action_76 : fet (cdT 39) 76 = some (.getfield 16, 9, 1) := by decide +kernel
theorem fX9_action_79 : fet (cdT 39) 79 = some (.getfield 129, 2, 4) := by decide +kernel
theorem fX9_action_82 : fet (cdT 39) 82 = some (.iload_n 1, 0, 0) := by decide +kernel
theorem fX9_action_83 : fet (cdT 39) 83 = some (.aaload, 0, 0) := by decide +kernel
theorem fX9_action_84 : fet (cdT 39) 84 = some (.astore 5, 0, 0) := by decide +kernel
theorem fX9_action_86 : fet (cdT 39) 86 = some (.aload 5, 0, 0) := by decide +kernel
theorem fX9_action_88 : fet (cdT 39) 88 = some (.getfield 133, 6, 0) := by decide +kernel
theorem fX9_action_91 : fet (cdT 39) 91 = some (.iconst 3, 0, 0) := by decide +kernel
theorem fX9_action_92 : fet (cdT 39) 92 = some (.if_icmp .lt 11, 0, 0) := by decide +kernel
theorem fX9_action_95 : fet (cdT 39) 95 = some (.new 82, 4, 1) := by decide +kernel
theorem fX9_action_103 : fet (cdT 39) 103 = some (.aload 5, 0, 0) := by decide +kernel
theorem fX9_action_105 : fet (cdT 39) 105 = some (.getfield 150, 6, 1) := by decide +kernel
theorem fX9_action_108 : fet (cdT 39) 108 = some (.aload 5, 0, 0) := by decide +kernel
theorem fX9_action_110 : fet (cdT 39) 110 = some (.getfield 133, 6, 0) := by decide +kernel
theorem fX9_action_113 : fet (cdT 39) 113 = some (.iload_n 2, 0, 0) := by decide +kernel
theorem fX9_action_114 : fet (cdT 39) 114 = some (.castore, 0, 0) := by decide +kernel
theorem fX9_action_115 : fet (cdT 39) 115 = some (.aload 5, 0, 0) := by decide +kernel
theorem fX9_action_117 : fet (cdT 39) 117 = some (.getfield 153, 6, 2) := by decide +kernel
theorem fX9_action_120 : fet (cdT 39) 120 = some (.aload 5, 0, 0) := by decide +kernel
theorem fX9_action_122 : fet (cdT 39) 122 = some (.getfield 133, 6, 0) := by decide +kernel
theorem fX9_action_125 : fet (cdT 39) 125 = some (.iload_n 3, 0, 0) := by decide +kernel
theorem fX9_action_126 : fet (cdT 39) 126 = some (.iastore, 0, 0) := by decide +kernel
theorem fX9_action_127 : fet (cdT 39) 127 = some (.aload 5, 0, 0) := by decide +kernel
theorem fX9_action_129 : fet (cdT 39) 129 = some (.getfield 156, 6, 3) := by decide +kernel
theorem fX9_action_132 : fet (cdT 39) 132 = some (.aload 5, 0, 0) := by decide +kernel
theorem fX9_action_134 : fet (cdT 39) 134 = some (.getfield 133, 6, 0) := by decide +kernel
theorem fX9_action_137 : fet (cdT 39) 137 = some (.iload 4, 0, 0) := by decide +kernel
theorem fX9_action_139 : fet (cdT 39) 139 = some (.iastore, 0, 0) := by decide +kernel
theorem fX9_action_140 : fet (cdT 39) 140 = some (.aload 5, 0, 0) := by decide +kernel
theorem fX9_action_142 : fet (cdT 39) 142 = some (.dup, 0, 0) := by decide +kernel
theorem fX9_action_143 : fet (cdT 39) 143 = some (.getfield 133, 6, 0) := by decide +kernel
theorem fX9_action_146 : fet (cdT 39) 146 = some (.iconst 1, 0, 0) := by decide +kernel
theorem fX9_action_147 : fet (cdT 39) 147 = some (.iadd, 0, 0) := by decide +kernel
theorem fX9_action_148 : fet (cdT 39) 148 = some (.putfield 133, 6, 0) := by decide +kernel
theorem fX9_action_151 : fet (cdT 39) 151 = some (.aload 5, 0, 0) := by decide +kernel
theorem fX9_action_153 : fet (cdT 39) 153 = some (.getfield 133, 6, 0) := by decide +kernel
theorem fX9_action_156 : fet (cdT 39) 156 = some (.ireturn, 0, 0) := by decide +kernel
theorem fX9_transition_0 : fet (cdT 40) 0 = some (.aload_n 0, 0, 0) := by decide +kernel
theorem fX9_transition_1 : fet (cdT 40) 1 = some (.getfield 16, 9, 1) := by decide +kernel
theorem fX9_transition_4 : fet (cdT 40) 4 = some (.iload_n 1, 0, 0) := by decide +kernel
theorem fX9_transition_5 : fet (cdT 40) 5 = some (.invokevirtual 138, 19, 0) := by decide +kernel
theorem fX9_transition_8 : fet (cdT 40) 8 = some (.ifCond .eq 37, 0, 0) := by decide +kernel
theorem fX9_transition_11 : fet (cdT 40) 11 = some (.aload_n 0, 0, 0) := by decide +kernel
theorem fX9_transition_12 : fet (cdT 40) 12 = some (.getfield 16, 9, 1) := by decide +kernel
theorem fX9_transition_15 : fet (cdT 40) 15 = some (.iload_n 2, 0, 0) := by decide +kernel
theorem fX9_transition_16 : fet (cdT 40) 16 = some (.invokevirtual 159, 20, 0) := by decide +kernel
theorem fX9_transition_19 : fet (cdT 40) 19 = some (.ifCond .eq 26, 0, 0) := by decide +kernel
theorem fX9_transition_22 : fet (cdT 40) 22 = some (.aload_n 0, 0, 0) := by decide +kernel
theorem fX9_transition_23 : fet (cdT 40) 23 = some (.getfield 16, 9, 1) := by decide +kernel
theorem fX9_transition_26 : fet (cdT 40) 26 = some (.iload_n 3, 0, 0) := by decide +kernel
theorem fX9_transition_27 : fet (cdT 40) 27 = some (.invokevirtual 138, 19, 0) := by decide +kernel
theorem fX9_transition_30 : fet (cdT 40) 30 = some (.ifCond .eq 15, 0, 0) := by decide +kernel
theorem fX9_transition_33 : fet (cdT 40) 33 = some (.aload_n 0, 0, 0) := by decide +kernel
theorem fX9_transition_34 : fet (cdT 40) 34 = some (.getfield 16, 9, 1) := by decide +kernel
theorem fX9_transition_37 : fet (cdT 40) 37 = some (.iload 4, 0, 0) := by decide +kernel
theorem fX9_transition_39 : fet (cdT 40) 39 = some (.invokevirtual 159, 20, 0) := by decide +kernel
theorem fX9_transition_42 : fet (cdT 40) 42 = some (.ifCond .ne 11, 0, 0) := by decide +kernel
theorem fX9_transition_45 : fet (cdT 40) 45 = some (.new 110, 3, 1) := by decide +kernel
theorem fX9_transition_53 : fet (cdT 40) 53 = some (.iload 5, 0, 0) := by decide +kernel
theorem fX9_transition_55 : fet (cdT 40) 55 = some (.invokestatic 115, 78, 1) := by decide +kernel
theorem fX9_transition_58 : fet (cdT 40) 58 = some (.ifCond .eq 18, 0, 0) := by decide +kernel
theorem fX9_transition_61 : fet (cdT 40) 61 = some (.iload_n 1, 0, 0) := by decide +kernel
theorem fX9_transition_62 : fet (cdT 40) 62 = some (.iload_n 2, 0, 0) := by decide +kernel
theorem fX9_transition_63 : fet (cdT 40) 63 = some (.if_icmp .eq 13, 0, 0) := by decide +kernel
theorem fX9_transition_66 : fet (cdT 40) 66 = some (.iload_n 3, 0, 0) := by decide +kernel
theorem fX9_transition_67 : fet (cdT 40) 67 = some (.iload 4, 0, 0) := by decide +kernel
theorem fX9_transition_69 : fet (cdT 40) 69 = some (.if_icmp .eq 7, 0, 0) := by decide +kernel
theorem fX9_transition_72 : fet (cdT 40) 72 = some (.iconst 1, 0, 0) := by decide +kernel
theorem fX9_transition_73 : fet (cdT 40) 73 = some (.goto 4, 0, 0) := by decide +kernel
theorem fX9_transition_76 : fet (cdT 40) 76 = some (.iconst 0, 0, 0) := by decide +kernel
theorem fX9_transition_77 : fet (cdT 40) 77 = some (.invokestatic 68, 74, 1) := by decide +kernel
theorem fX9_transition_80 : fet (cdT 40) 80 = some (.aload_n 0, 0, 0) := by decide +kernel
theorem fX9_transition_81 : fet (cdT 40) 81 = some (.getfield 16, 9, 1) := by decide +kernel
theorem fX9_transition_84 : fet (cdT 40) 84 = some (.getfield 162, 2, 2) := by decide +kernel
theorem fX9_transition_87 : fet (cdT 40) 87 = some (.bipush 16, 0, 0) := by decide +kernel
theorem fX9_transition_89 : fet (cdT 40) 89 = some (.if_icmp .lt 11, 0, 0) := by decide +kernel
theorem fX9_transition_92 : fet (cdT 40) 92 = some (.new 82, 4, 1) := by decide +kernel
theorem fX9_transition_100 : fet (cdT 40) 100 = some (.aload_n 0, 0, 0) := by decide +kernel
theorem fX9_transition_101 : fet (cdT 40) 101 = some (.getfield 16, 9, 1) := by decide +kernel
theorem fX9_transition_104 : fet (cdT 40) 104 = some (.getfield 165, 2, 5) := by decide +kernel
theorem fX9_transition_107 : fet (cdT 40) 107 = some (.aload_n 0, 0, 0) := by decide +kernel
theorem fX9_transition_108 : fet (cdT 40) 108 = some (.getfield 16, 9, 1) := by decide +kernel
theorem fX9_transition_111 : fet (cdT 40) 111 = some (.getfield 162, 2, 2) := by decide +kernel
theorem fX9_transition_114 : fet (cdT 40) 114 = some (.aaload, 0, 0) := by decide +kernel
theorem fX9_transition_115 : fet (cdT 40) 115 = some (.astore 7, 0, 0) := by decide +kernel
theorem fX9_transition_117 : fet (cdT 40) 117 = some (.aload 7, 0, 0) := by decide +kernel
theorem fX9_transition_119 : fet (cdT 40) 119 = some (.iload_n 1, 0, 0) := by decide +kernel
theorem fX9_transition_120 : fet (cdT 40) 120 = some (.invokestatic 169, 84, 1) := by decide +kernel
theorem fX9_transition_123 : fet (cdT 40) 123 = some (.iload_n 2, 0, 0) := by decide +kernel
theorem fX9_transition_124 : fet (cdT 40) 124 = some (.invokestatic 169, 84, 1) := by decide +kernel
theorem fX9_transition_127 : fet (cdT 40) 127 = some (.ior, 0, 0) := by decide +kernel
theorem fX9_transition_128 : fet (cdT 40) 128 = some (.putfield 172, 8, 0) := by decide +kernel
theorem fX9_transition_131 : fet (cdT 40) 131 = some (.aload 7, 0, 0) := by decide +kernel
theorem fX9_transition_133 : fet (cdT 40) 133 = some (.iload_n 3, 0, 0) := by decide +kernel
theorem fX9_transition_134 : fet (cdT 40) 134 = some (.invokestatic 169, 84, 1) := by decide +kernel
theorem fX9_transition_137 : fet (cdT 40) 137 = some (.iload 4, 0, 0) := by decide +kernel
theorem fX9_transition_139 : fet (cdT 40) 139 = some (.invokestatic 169, 84, 1) := by decide +kernel
theorem fX9_transition_142 : fet (cdT 40) 142 = some (.ior, 0, 0) := by decide +kernel
theorem fX9_transition_143 : fet (cdT 40) 143 = some (.putfield 177, 8, 1) := by decide +kernel
theorem fX9_transition_146 : fet (cdT 40) 146 = some (.aload 7, 0, 0) := by decide +kernel
theorem fX9_transition_148 : fet (cdT 40) 148 = some (.iload 5, 0, 0) := by decide +kernel
theorem fX9_transition_150 : fet (cdT 40) 150 = some (.putfield 180, 8, 2) := by decide +kernel
theorem fX9_transition_153 : fet (cdT 40) 153 = some (.aload 7, 0, 0) := by decide +kernel
theorem fX9_transition_155 : fet (cdT 40) 155 = some (.iload 6, 0, 0) := by decide +kernel
theorem fX9_transition_157 : fet (cdT 40) 157 = some (.putfield 183, 8, 3) := by decide +kernel
theorem fX9_transition_160 : fet (cdT 40) 160 = some (.aload_n 0, 0, 0) := by decide +kernel
theorem fX9_transition_161 : fet (cdT 40) 161 = some (.getfield 16, 9, 1) := by decide +kernel
theorem fX9_transition_164 : fet (cdT 40) 164 = some (.dup, 0, 0) := by decide +kernel
theorem fX9_transition_165 : fet (cdT 40) 165 = some (.getfield 162, 2, 2) := by decide +kernel
theorem fX9_transition_168 : fet (cdT 40) 168 = some (.iconst 1, 0, 0) := by decide +kernel
theorem fX9_transition_169 : fet (cdT 40) 169 = some (.iadd, 0, 0) := by decide +kernel
theorem fX9_transition_170 : fet (cdT 40) 170 = some (.putfield 162, 2, 2) := by decide +kernel
theorem fX9_transition_173 : fet (cdT 40) 173 = some (.aload_n 0, 0, 0) := by decide +kernel
theorem fX9_transition_174 : fet (cdT 40) 174 = some (.getfield 16, 9, 1) := by decide +kernel
theorem fX9_transition_177 : fet (cdT 40) 177 = some (.getfield 162, 2, 2) := by decide +kernel
theorem fX9_transition_180 : fet (cdT 40) 180 = some (.ireturn, 0, 0) := by decide +kernel
theorem fX9_emptyDraft_0 : fet (cdT 41) 0 = some (.aload_n 0, 0, 0) := by decide +kernel
theorem fX9_emptyDraft_1 : fet (cdT 41) 1 = some (.getfield 16, 9, 1) := by decide +kernel
theorem fX9_emptyDraft_4 : fet (cdT 41) 4 = some (.getfield 79, 2, 0) := by decide +kernel
theorem fX9_emptyDraft_7 : fet (cdT 41) 7 = some (.istore_n 1, 0, 0) := by decide +kernel
theorem fX9_emptyDraft_8 : fet (cdT 41) 8 = some (.aload_n 0, 0, 0) := by decide +kernel
theorem fX9_emptyDraft_9 : fet (cdT 41) 9 = some (.getfield 16, 9, 1) := by decide +kernel
theorem fX9_emptyDraft_12 : fet (cdT 41) 12 = some (.invokevirtual 187, 16, 0) := by decide +kernel
theorem fX9_emptyDraft_15 : fet (cdT 41) 15 = some (.iload_n 1, 0, 0) := by decide +kernel
theorem fX9_emptyDraft_16 : fet (cdT 41) 16 = some (.ireturn, 0, 0) := by decide +kernel
theorem fX9_takeOver_0 : fet (cdT 42) 0 = some (.aload_n 0, 0, 0) := by decide +kernel
theorem fX9_takeOver_1 : fet (cdT 42) 1 = some (.getfield 16, 9, 1) := by decide +kernel
theorem fX9_takeOver_4 : fet (cdT 42) 4 = some (.invokevirtual 190, 21, 0) := by decide +kernel
theorem fX9_takeOver_7 : fet (cdT 42) 7 = some (.istore_n 1, 0, 0) := by decide +kernel
theorem fX9_takeOver_8 : fet (cdT 42) 8 = some (.aload_n 0, 0, 0) := by decide +kernel
theorem fX9_takeOver_9 : fet (cdT 42) 9 = some (.getfield 10, 9, 0) := by decide +kernel
theorem fX9_takeOver_12 : fet (cdT 42) 12 = some (.getfield 126, 2, 1) := by decide +kernel
theorem fX9_takeOver_15 : fet (cdT 42) 15 = some (.ifCond .ne 7, 0, 0) := by decide +kernel
theorem fX9_takeOver_18 : fet (cdT 42) 18 = some (.iload_n 1, 0, 0) := by decide +kernel
theorem fX9_takeOver_19 : fet (cdT 42) 19 = some (.iconst 1, 0, 0) := by decide +kernel
theorem fX9_takeOver_20 : fet (cdT 42) 20 = some (.ior, 0, 0) := by decide +kernel
theorem fX9_takeOver_21 : fet (cdT 42) 21 = some (.istore_n 1, 0, 0) := by decide +kernel
theorem fX9_takeOver_22 : fet (cdT 42) 22 = some (.aload_n 0, 0, 0) := by decide +kernel
theorem fX9_takeOver_23 : fet (cdT 42) 23 = some (.getfield 22, 9, 2) := by decide +kernel
theorem fX9_takeOver_26 : fet (cdT 42) 26 = some (.getfield 194, 5, 1) := by decide +kernel
theorem fX9_takeOver_29 : fet (cdT 42) 29 = some (.iload_n 1, 0, 0) := by decide +kernel
theorem fX9_takeOver_30 : fet (cdT 42) 30 = some (.iconst (-1), 0, 0) := by decide +kernel
theorem fX9_takeOver_31 : fet (cdT 42) 31 = some (.ixor, 0, 0) := by decide +kernel
theorem fX9_takeOver_32 : fet (cdT 42) 32 = some (.iand, 0, 0) := by decide +kernel
theorem fX9_takeOver_33 : fet (cdT 42) 33 = some (.ifCond .eq 11, 0, 0) := by decide +kernel
theorem fX9_takeOver_36 : fet (cdT 42) 36 = some (.new 197, 2, 1) := by decide +kernel
theorem fX9_takeOver_44 : fet (cdT 42) 44 = some (.aload_n 0, 0, 0) := by decide +kernel
theorem fX9_takeOver_45 : fet (cdT 42) 45 = some (.invokevirtual 200, 87, 0) := by decide +kernel
theorem fX9_takeOver_48 : fet (cdT 42) 48 = some (.aload_n 0, 0, 0) := by decide +kernel
theorem fX9_takeOver_49 : fet (cdT 42) 49 = some (.getfield 10, 9, 0) := by decide +kernel
theorem fX9_takeOver_52 : fet (cdT 42) 52 = some (.aload_n 0, 0, 0) := by decide +kernel
theorem fX9_takeOver_53 : fet (cdT 42) 53 = some (.getfield 16, 9, 1) := by decide +kernel
theorem fX9_takeOver_56 : fet (cdT 42) 56 = some (.invokevirtual 203, 17, 0) := by decide +kernel
theorem fX9_takeOver_59 : fet (cdT 42) 59 = some (.aload_n 0, 0, 0) := by decide +kernel
theorem fX9_takeOver_60 : fet (cdT 42) 60 = some (.getfield 32, 9, 4) := by decide +kernel
theorem fX9_takeOver_63 : fet (cdT 42) 63 = some (.aload_n 0, 0, 0) := by decide +kernel
theorem fX9_takeOver_64 : fet (cdT 42) 64 = some (.getfield 22, 9, 2) := by decide +kernel
theorem fX9_takeOver_67 : fet (cdT 42) 67 = some (.invokevirtual 207, 26, 0) := by decide +kernel
theorem fX9_takeOver_70 : fet (cdT 42) 70 = some (.aload_n 0, 0, 0) := by decide +kernel
theorem fX9_takeOver_71 : fet (cdT 42) 71 = some (.getfield 10, 9, 0) := by decide +kernel
theorem fX9_takeOver_74 : fet (cdT 42) 74 = some (.getfield 79, 2, 0) := by decide +kernel
theorem fX9_takeOver_77 : fet (cdT 42) 77 = some (.ireturn, 0, 0) := by decide +kernel
theorem fX9_setInput_0 : fet (cdT 43) 0 = some (.iload_n 1, 0, 0) := by decide +kernel
theorem fX9_setInput_1 : fet (cdT 43) 1 = some (.invokestatic 211, 77, 1) := by decide +kernel
theorem fX9_setInput_4 : fet (cdT 43) 4 = some (.invokestatic 68, 74, 1) := by decide +kernel
theorem fX9_setInput_7 : fet (cdT 43) 7 = some (.aload_n 0, 0, 0) := by decide +kernel
theorem fX9_setInput_8 : fet (cdT 43) 8 = some (.getfield 39, 9, 5) := by decide +kernel
theorem fX9_setInput_11 : fet (cdT 43) 11 = some (.getfield 214, 1, 0) := by decide +kernel
theorem fX9_setInput_14 : fet (cdT 43) 14 = some (.iload_n 1, 0, 0) := by decide +kernel
theorem fX9_setInput_15 : fet (cdT 43) 15 = some (.invokestatic 217, 83, 1) := by decide +kernel
theorem fX9_setInput_18 : fet (cdT 43) 18 = some (.istore_n 3, 0, 0) := by decide +kernel
theorem fX9_setInput_19 : fet (cdT 43) 19 = some (.aload_n 0, 0, 0) := by decide +kernel
theorem fX9_setInput_20 : fet (cdT 43) 20 = some (.getfield 39, 9, 5) := by decide +kernel
theorem fX9_setInput_23 : fet (cdT 43) 23 = some (.iload_n 2, 0, 0) := by decide +kernel
theorem fX9_setInput_24 : fet (cdT 43) 24 = some (.ifCond .eq 18, 0, 0) := by decide +kernel
theorem fX9_setInput_27 : fet (cdT 43) 27 = some (.aload_n 0, 0, 0) := by decide +kernel
theorem fX9_setInput_28 : fet (cdT 43) 28 = some (.getfield 39, 9, 5) := by decide +kernel
theorem fX9_setInput_31 : fet (cdT 43) 31 = some (.getfield 214, 1, 0) := by decide +kernel
theorem fX9_setInput_34 : fet (cdT 43) 34 = some (.iload_n 1, 0, 0) := by decide +kernel
theorem fX9_setInput_35 : fet (cdT 43) 35 = some (.invokestatic 169, 84, 1) := by decide +kernel
theorem fX9_setInput_38 : fet (cdT 43) 38 = some (.ior, 0, 0) := by decide +kernel
theorem fX9_setInput_39 : fet (cdT 43) 39 = some (.goto 17, 0, 0) := by decide +kernel
theorem fX9_setInput_42 : fet (cdT 43) 42 = some (.aload_n 0, 0, 0) := by decide +kernel
theorem fX9_setInput_43 : fet (cdT 43) 43 = some (.getfield 39, 9, 5) := by decide +kernel
theorem fX9_setInput_46 : fet (cdT 43) 46 = some (.getfield 214, 1, 0) := by decide +kernel
theorem fX9_setInput_49 : fet (cdT 43) 49 = some (.iload_n 1, 0, 0) := by decide +kernel
theorem fX9_setInput_50 : fet (cdT 43) 50 = some (.invokestatic 169, 84, 1) := by decide +kernel
theorem fX9_setInput_53 : fet (cdT 43) 53 = some (.iconst (-1), 0, 0) := by decide +kernel
theorem fX9_setInput_54 : fet (cdT 43) 54 = some (.ixor, 0, 0) := by decide +kernel
theorem fX9_setInput_55 : fet (cdT 43) 55 = some (.iand, 0, 0) := by decide +kernel
theorem fX9_setInput_56 : fet (cdT 43) 56 = some (.putfield 214, 1, 0) := by decide +kernel
theorem fX9_setInput_59 : fet (cdT 43) 59 = some (.iload_n 3, 0, 0) := by decide +kernel
theorem fX9_setInput_60 : fet (cdT 43) 60 = some (.ireturn, 0, 0) := by decide +kernel
theorem fX9_force_0 : fet (cdT 44) 0 = some (.iload_n 1, 0, 0) := by decide +kernel
theorem fX9_force_1 : fet (cdT 44) 1 = some (.invokestatic 115, 78, 1) := by decide +kernel
theorem fX9_force_4 : fet (cdT 44) 4 = some (.ifCond .eq 16, 0, 0) := by decide +kernel
theorem fX9_force_7 : fet (cdT 44) 7 = some (.iload_n 2, 0, 0) := by decide +kernel
theorem fX9_force_8 : fet (cdT 44) 8 = some (.iconst (-1), 0, 0) := by decide +kernel
theorem fX9_force_9 : fet (cdT 44) 9 = some (.iconst 1, 0, 0) := by decide +kernel
theorem fX9_force_10 : fet (cdT 44) 10 = some (.invokestatic 146, 75, 1) := by decide +kernel
theorem fX9_force_13 : fet (cdT 44) 13 = some (.ifCond .eq 7, 0, 0) := by decide +kernel
theorem fX9_force_16 : fet (cdT 44) 16 = some (.iconst 1, 0, 0) := by decide +kernel
theorem fX9_force_17 : fet (cdT 44) 17 = some (.goto 4, 0, 0) := by decide +kernel
theorem fX9_force_20 : fet (cdT 44) 20 = some (.iconst 0, 0, 0) := by decide +kernel
theorem fX9_force_21 : fet (cdT 44) 21 = some (.invokestatic 68, 74, 1) := by decide +kernel
theorem fX9_force_24 : fet (cdT 44) 24 = some (.iload_n 1, 0, 0) := by decide +kernel
theorem fX9_force_25 : fet (cdT 44) 25 = some (.invokestatic 169, 84, 1) := by decide +kernel
theorem fX9_force_28 : fet (cdT 44) 28 = some (.istore_n 3, 0, 0) := by decide +kernel
theorem fX9_force_29 : fet (cdT 44) 29 = some (.iconst (-1), 0, 0) := by decide +kernel
theorem fX9_force_30 : fet (cdT 44) 30 = some (.istore 4, 0, 0) := by decide +kernel
theorem fX9_force_32 : fet (cdT 44) 32 = some (.aload_n 0, 0, 0) := by decide +kernel
theorem fX9_force_33 : fet (cdT 44) 33 = some (.getfield 221, 9, 8) := by decide +kernel
theorem fX9_force_36 : fet (cdT 44) 36 = some (.iload_n 1, 0, 0) := by decide +kernel
theorem fX9_force_37 : fet (cdT 44) 37 = some (.invokestatic 217, 83, 1) := by decide +kernel
theorem fX9_force_40 : fet (cdT 44) 40 = some (.ifCond .eq 21, 0, 0) := by decide +kernel
theorem fX9_force_43 : fet (cdT 44) 43 = some (.aload_n 0, 0, 0) := by decide +kernel
theorem fX9_force_44 : fet (cdT 44) 44 = some (.getfield 224, 9, 9) := by decide +kernel
theorem fX9_force_47 : fet (cdT 44) 47 = some (.iload_n 1, 0, 0) := by decide +kernel
theorem fX9_force_48 : fet (cdT 44) 48 = some (.invokestatic 217, 83, 1) := by decide +kernel
theorem fX9_force_51 : fet (cdT 44) 51 = some (.ifCond .eq 7, 0, 0) := by decide +kernel
theorem fX9_force_54 : fet (cdT 44) 54 = some (.iconst 1, 0, 0) := by decide +kernel
theorem fX9_force_55 : fet (cdT 44) 55 = some (.goto 4, 0, 0) := by decide +kernel
theorem fX9_force_58 : fet (cdT 44) 58 = some (.iconst 0, 0, 0) := by decide +kernel
theorem fX9_force_59 : fet (cdT 44) 59 = some (.istore 4, 0, 0) := by decide +kernel
theorem fX9_force_61 : fet (cdT 44) 61 = some (.aload_n 0, 0, 0) := by decide +kernel
theorem fX9_force_62 : fet (cdT 44) 62 = some (.iload_n 2, 0, 0) := by decide +kernel
theorem fX9_force_63 : fet (cdT 44) 63 = some (.iconst (-1), 0, 0) := by decide +kernel
theorem fX9_force_64 : fet (cdT 44) 64 = some (.if_icmp .ne 14, 0, 0) := by decide +kernel
theorem fX9_force_67 : fet (cdT 44) 67 = some (.aload_n 0, 0, 0) := by decide +kernel
theorem fX9_force_68 : fet (cdT 44) 68 = some (.getfield 221, 9, 8) := by decide +kernel
theorem fX9_force_71 : fet (cdT 44) 71 = some (.iload_n 3, 0, 0) := by decide +kernel
theorem fX9_force_72 : fet (cdT 44) 72 = some (.iconst (-1), 0, 0) := by decide +kernel
theorem fX9_force_73 : fet (cdT 44) 73 = some (.ixor, 0, 0) := by decide +kernel
theorem fX9_force_74 : fet (cdT 44) 74 = some (.iand, 0, 0) := by decide +kernel
theorem fX9_force_75 : fet (cdT 44) 75 = some (.goto 9, 0, 0) := by decide +kernel
theorem fX9_force_78 : fet (cdT 44) 78 = some (.aload_n 0, 0, 0) := by decide +kernel
theorem fX9_force_79 : fet (cdT 44) 79 = some (.getfield 221, 9, 8) := by decide +kernel
theorem fX9_force_82 : fet (cdT 44) 82 = some (.iload_n 3, 0, 0) := by decide +kernel
theorem fX9_force_83 : fet (cdT 44) 83 = some (.ior, 0, 0) := by decide +kernel
theorem fX9_force_84 : fet (cdT 44) 84 = some (.putfield 221, 9, 8) := by decide +kernel
theorem fX9_force_87 : fet (cdT 44) 87 = some (.aload_n 0, 0, 0) := by decide +kernel
theorem fX9_force_88 : fet (cdT 44) 88 = some (.iload_n 2, 0, 0) := by decide +kernel
theorem fX9_force_89 : fet (cdT 44) 89 = some (.iconst 1, 0, 0) := by decide +kernel
theorem fX9_force_90 : fet (cdT 44) 90 = some (.if_icmp .ne 12, 0, 0) := by decide +kernel
theorem fX9_force_93 : fet (cdT 44) 93 = some (.aload_n 0, 0, 0) := by decide +kernel
theorem fX9_force_94 : fet (cdT 44) 94 = some (.getfield 224, 9, 9) := by decide +kernel
theorem fX9_force_97 : fet (cdT 44) 97 = some (.iload_n 3, 0, 0) := by decide +kernel
theorem fX9_force_98 : fet (cdT 44) 98 = some (.ior, 0, 0) := by decide +kernel
theorem fX9_force_99 : fet (cdT 44) 99 = some (.goto 11, 0, 0) := by decide +kernel
theorem fX9_force_102 : fet (cdT 44) 102 = some (.aload_n 0, 0, 0) := by decide +kernel
theorem fX9_force_103 : fet (cdT 44) 103 = some (.getfield 224, 9, 9) := by decide +kernel
theorem fX9_force_106 : fet (cdT 44) 106 = some (.iload_n 3, 0, 0) := by decide +kernel
theorem fX9_force_107 : fet (cdT 44) 107 = some (.iconst (-1), 0, 0) := by decide +kernel
theorem fX9_force_108 : fet (cdT 44) 108 = some (.ixor, 0, 0) := by decide +kernel
theorem fX9_force_109 : fet (cdT 44) 109 = some (.iand, 0, 0) := by decide +kernel
theorem fX9_force_110 : fet (cdT 44) 110 = some (.putfield 224, 9, 9) := by decide +kernel
theorem fX9_force_113 : fet (cdT 44) 113 = some (.iload 4, 0, 0) := by decide +kernel
theorem fX9_force_115 : fet (cdT 44) 115 = some (.ireturn, 0, 0) := by decide +kernel
theorem fX9_setPeriod_0 : fet (cdT 45) 0 = some (.iload_n 1, 0, 0) := by decide +kernel
theorem fX9_setPeriod_1 : fet (cdT 45) 1 = some (.invokestatic 56, 76, 1) := by decide +kernel
theorem fX9_setPeriod_4 : fet (cdT 45) 4 = some (.ifCond .eq 17, 0, 0) := by decide +kernel
theorem fX9_setPeriod_7 : fet (cdT 45) 7 = some (.iload_n 2, 0, 0) := by decide +kernel
theorem fX9_setPeriod_8 : fet (cdT 45) 8 = some (.iconst 0, 0, 0) := by decide +kernel
theorem fX9_setPeriod_9 : fet (cdT 45) 9 = some (.bipush 100, 0, 0) := by decide +kernel
theorem fX9_setPeriod_11 : fet (cdT 45) 11 = some (.invokestatic 146, 75, 1) := by decide +kernel
theorem fX9_setPeriod_14 : fet (cdT 45) 14 = some (.ifCond .eq 7, 0, 0) := by decide +kernel
theorem fX9_setPeriod_17 : fet (cdT 45) 17 = some (.iconst 1, 0, 0) := by decide +kernel
theorem fX9_setPeriod_18 : fet (cdT 45) 18 = some (.goto 4, 0, 0) := by decide +kernel
theorem fX9_setPeriod_21 : fet (cdT 45) 21 = some (.iconst 0, 0, 0) := by decide +kernel
theorem fX9_setPeriod_22 : fet (cdT 45) 22 = some (.invokestatic 68, 74, 1) := by decide +kernel
theorem fX9_setPeriod_25 : fet (cdT 45) 25 = some (.aload_n 0, 0, 0) := by decide +kernel
theorem fX9_setPeriod_26 : fet (cdT 45) 26 = some (.getfield 48, 9, 6) := by decide +kernel
theorem fX9_setPeriod_29 : fet (cdT 45) 29 = some (.iload_n 1, 0, 0) := by decide +kernel
theorem fX9_setPeriod_30 : fet (cdT 45) 30 = some (.aaload, 0, 0) := by decide +kernel
theorem fX9_setPeriod_31 : fet (cdT 45) 31 = some (.getfield 227, 7, 0) := by decide +kernel
theorem fX9_setPeriod_34 : fet (cdT 45) 34 = some (.istore_n 3, 0, 0) := by decide +kernel
theorem fX9_setPeriod_35 : fet (cdT 45) 35 = some (.aload_n 0, 0, 0) := by decide +kernel
theorem fX9_setPeriod_36 : fet (cdT 45) 36 = some (.getfield 48, 9, 6) := by decide +kernel
theorem fX9_setPeriod_39 : fet (cdT 45) 39 = some (.iload_n 1, 0, 0) := by decide +kernel
theorem fX9_setPeriod_40 : fet (cdT 45) 40 = some (.aaload, 0, 0) := by decide +kernel
theorem fX9_setPeriod_41 : fet (cdT 45) 41 = some (.iload_n 2, 0, 0) := by decide +kernel
theorem fX9_setPeriod_42 : fet (cdT 45) 42 = some (.putfield 227, 7, 0) := by decide +kernel
theorem fX9_setPeriod_45 : fet (cdT 45) 45 = some (.iload_n 3, 0, 0) := by decide +kernel
theorem fX9_setPeriod_46 : fet (cdT 45) 46 = some (.ireturn, 0, 0) := by decide +kernel
theorem fX9_setStart_0 : fet (cdT 46) 0 = some (.iload_n 1, 0, 0) := by decide +kernel
theorem fX9_setStart_1 : fet (cdT 46) 1 = some (.iconst (-1), 0, 0) := by decide +kernel
theorem fX9_setStart_2 : fet (cdT 46) 2 = some (.if_icmp .eq 10, 0, 0) := by decide +kernel
theorem fX9_setStart_5 : fet (cdT 46) 5 = some (.iload_n 1, 0, 0) := by decide +kernel
theorem fX9_setStart_6 : fet (cdT 46) 6 = some (.invokestatic 115, 78, 1) := by decide +kernel
theorem fX9_setStart_9 : fet (cdT 46) 9 = some (.ifCond .eq 7, 0, 0) := by decide +kernel
theorem fX9_setStart_12 : fet (cdT 46) 12 = some (.iconst 1, 0, 0) := by decide +kernel
theorem fX9_setStart_13 : fet (cdT 46) 13 = some (.goto 4, 0, 0) := by decide +kernel
theorem fX9_setStart_16 : fet (cdT 46) 16 = some (.iconst 0, 0, 0) := by decide +kernel
theorem fX9_setStart_17 : fet (cdT 46) 17 = some (.invokestatic 68, 74, 1) := by decide +kernel
theorem fX9_setStart_20 : fet (cdT 46) 20 = some (.aload_n 0, 0, 0) := by decide +kernel
theorem fX9_setStart_21 : fet (cdT 46) 21 = some (.getfield 52, 9, 10) := by decide +kernel
theorem fX9_setStart_24 : fet (cdT 46) 24 = some (.istore_n 2, 0, 0) := by decide +kernel
theorem fX9_setStart_25 : fet (cdT 46) 25 = some (.aload_n 0, 0, 0) := by decide +kernel
theorem fX9_setStart_26 : fet (cdT 46) 26 = some (.iload_n 1, 0, 0) := by decide +kernel
theorem fX9_setStart_27 : fet (cdT 46) 27 = some (.putfield 52, 9, 10) := by decide +kernel
theorem fX9_setStart_30 : fet (cdT 46) 30 = some (.aload_n 0, 0, 0) := by decide +kernel
theorem fX9_setStart_31 : fet (cdT 46) 31 = some (.iconst 0, 0, 0) := by decide +kernel
theorem fX9_setStart_32 : fet (cdT 46) 32 = some (.putfield 230, 9, 11) := by decide +kernel
theorem fX9_setStart_35 : fet (cdT 46) 35 = some (.iload_n 2, 0, 0) := by decide +kernel
theorem fX9_setStart_36 : fet (cdT 46) 36 = some (.ireturn, 0, 0) := by decide +kernel
theorem fX9_setWatch_0 : fet (cdT 47) 0 = some (.iload_n 1, 0, 0) := by decide +kernel
theorem fX9_setWatch_1 : fet (cdT 47) 1 = some (.invokestatic 56, 76, 1) := by decide +kernel
theorem fX9_setWatch_4 : fet (cdT 47) 4 = some (.ifCond .eq 17, 0, 0) := by decide +kernel
theorem fX9_setWatch_7 : fet (cdT 47) 7 = some (.iload_n 2, 0, 0) := by decide +kernel
theorem fX9_setWatch_8 : fet (cdT 47) 8 = some (.iconst 1, 0, 0) := by decide +kernel
theorem fX9_setWatch_9 : fet (cdT 47) 9 = some (.bipush 40, 0, 0) := by decide +kernel
theorem fX9_setWatch_11 : fet (cdT 47) 11 = some (.invokestatic 146, 75, 1) := by decide +kernel
theorem fX9_setWatch_14 : fet (cdT 47) 14 = some (.ifCond .eq 7, 0, 0) := by decide +kernel
theorem fX9_setWatch_17 : fet (cdT 47) 17 = some (.iconst 1, 0, 0) := by decide +kernel
theorem fX9_setWatch_18 : fet (cdT 47) 18 = some (.goto 4, 0, 0) := by decide +kernel
theorem fX9_setWatch_21 : fet (cdT 47) 21 = some (.iconst 0, 0, 0) := by decide +kernel
theorem fX9_setWatch_22 : fet (cdT 47) 22 = some (.invokestatic 68, 74, 1) := by decide +kernel
theorem fX9_setWatch_25 : fet (cdT 47) 25 = some (.aload_n 0, 0, 0) := by decide +kernel
theorem fX9_setWatch_26 : fet (cdT 47) 26 = some (.getfield 48, 9, 6) := by decide +kernel
theorem fX9_setWatch_29 : fet (cdT 47) 29 = some (.iload_n 1, 0, 0) := by decide +kernel
theorem fX9_setWatch_30 : fet (cdT 47) 30 = some (.aaload, 0, 0) := by decide +kernel
theorem fX9_setWatch_31 : fet (cdT 47) 31 = some (.getfield 233, 7, 1) := by decide +kernel
theorem fX9_setWatch_34 : fet (cdT 47) 34 = some (.istore_n 3, 0, 0) := by decide +kernel
theorem fX9_setWatch_35 : fet (cdT 47) 35 = some (.aload_n 0, 0, 0) := by decide +kernel
theorem fX9_setWatch_36 : fet (cdT 47) 36 = some (.getfield 48, 9, 6) := by decide +kernel
theorem fX9_setWatch_39 : fet (cdT 47) 39 = some (.iload_n 1, 0, 0) := by decide +kernel
theorem fX9_setWatch_40 : fet (cdT 47) 40 = some (.aaload, 0, 0) := by decide +kernel
theorem fX9_setWatch_41 : fet (cdT 47) 41 = some (.iload_n 2, 0, 0) := by decide +kernel
theorem fX9_setWatch_42 : fet (cdT 47) 42 = some (.putfield 233, 7, 1) := by decide +kernel
theorem fX9_setWatch_45 : fet (cdT 47) 45 = some (.iload_n 3, 0, 0) := by decide +kernel
theorem fX9_setWatch_46 : fet (cdT 47) 46 = some (.ireturn, 0, 0) := by decide +kernel
theorem fX9_lose_0 : fet (cdT 48) 0 = some (.iload_n 1, 0, 0) := by decide +kernel
theorem fX9_lose_1 : fet (cdT 48) 1 = some (.iconst 1, 0, 0) := by decide +kernel
theorem fX9_lose_2 : fet (cdT 48) 2 = some (.bipush 20, 0, 0) := by decide +kernel
theorem fX9_lose_4 : fet (cdT 48) 4 = some (.invokestatic 146, 75, 1) := by decide +kernel
theorem fX9_lose_7 : fet (cdT 48) 7 = some (.invokestatic 68, 74, 1) := by decide +kernel
theorem fX9_lose_10 : fet (cdT 48) 10 = some (.aload_n 0, 0, 0) := by decide +kernel
theorem fX9_lose_11 : fet (cdT 48) 11 = some (.getfield 39, 9, 5) := by decide +kernel
theorem fX9_lose_14 : fet (cdT 48) 14 = some (.getfield 236, 1, 3) := by decide +kernel
theorem fX9_lose_17 : fet (cdT 48) 17 = some (.istore_n 2, 0, 0) := by decide +kernel
theorem fX9_lose_18 : fet (cdT 48) 18 = some (.aload_n 0, 0, 0) := by decide +kernel
theorem fX9_lose_19 : fet (cdT 48) 19 = some (.getfield 39, 9, 5) := by decide +kernel
theorem fX9_lose_22 : fet (cdT 48) 22 = some (.iload_n 1, 0, 0) := by decide +kernel
theorem fX9_lose_23 : fet (cdT 48) 23 = some (.putfield 236, 1, 3) := by decide +kernel
theorem fX9_lose_26 : fet (cdT 48) 26 = some (.iload_n 2, 0, 0) := by decide +kernel
theorem fX9_lose_27 : fet (cdT 48) 27 = some (.ireturn, 0, 0) := by decide +kernel
theorem fX9_setHold_0 : fet (cdT 49) 0 = some (.iload_n 1, 0, 0) := by decide +kernel
theorem fX9_setHold_1 : fet (cdT 49) 1 = some (.iconst 0, 0, 0) := by decide +kernel
theorem fX9_setHold_2 : fet (cdT 49) 2 = some (.bipush 9, 0, 0) := by decide +kernel
theorem fX9_setHold_4 : fet (cdT 49) 4 = some (.invokestatic 146, 75, 1) := by decide +kernel
theorem fX9_setHold_7 : fet (cdT 49) 7 = some (.invokestatic 68, 74, 1) := by decide +kernel
theorem fX9_setHold_10 : fet (cdT 49) 10 = some (.aload_n 0, 0, 0) := by decide +kernel
theorem fX9_setHold_11 : fet (cdT 49) 11 = some (.getfield 39, 9, 5) := by decide +kernel
theorem fX9_setHold_14 : fet (cdT 49) 14 = some (.getfield 239, 1, 5) := by decide +kernel
theorem fX9_setHold_17 : fet (cdT 49) 17 = some (.istore_n 2, 0, 0) := by decide +kernel
theorem fX9_setHold_18 : fet (cdT 49) 18 = some (.aload_n 0, 0, 0) := by decide +kernel
theorem fX9_setHold_19 : fet (cdT 49) 19 = some (.getfield 39, 9, 5) := by decide +kernel
theorem fX9_setHold_22 : fet (cdT 49) 22 = some (.iload_n 1, 0, 0) := by decide +kernel
theorem fX9_setHold_23 : fet (cdT 49) 23 = some (.putfield 239, 1, 5) := by decide +kernel
theorem fX9_setHold_26 : fet (cdT 49) 26 = some (.iload_n 2, 0, 0) := by decide +kernel
theorem fX9_setHold_27 : fet (cdT 49) 27 = some (.ireturn, 0, 0) := by decide +kernel
theorem fX9_pass_0 : fet (cdT 50) 0 = some (.iload_n 1, 0, 0) := by decide +kernel
theorem fX9_pass_1 : fet (cdT 50) 1 = some (.iconst 1, 0, 0) := by decide +kernel
theorem fX9_pass_2 : fet (cdT 50) 2 = some (.sipush 200, 0, 0) := by decide +kernel
theorem fX9_pass_5 : fet (cdT 50) 5 = some (.invokestatic 146, 75, 1) := by decide +kernel
theorem fX9_pass_8 : fet (cdT 50) 8 = some (.invokestatic 68, 74, 1) := by decide +kernel
theorem fX9_pass_11 : fet (cdT 50) 11 = some (.aload_n 0, 0, 0) := by decide +kernel
theorem fX9_pass_12 : fet (cdT 50) 12 = some (.getfield 242, 9, 7) := by decide +kernel
theorem fX9_pass_15 : fet (cdT 50) 15 = some (.iload_n 1, 0, 0) := by decide +kernel
theorem fX9_pass_16 : fet (cdT 50) 16 = some (.iadd, 0, 0) := by decide +kernel
theorem fX9_pass_17 : fet (cdT 50) 17 = some (.ldc 245, 1, 99999) := by decide +kernel
theorem fX9_pass_19 : fet (cdT 50) 19 = some (.if_icmp .le 11, 0, 0) := by decide +kernel
theorem fX9_pass_22 : fet (cdT 50) 22 = some (.new 82, 4, 1) := by decide +kernel
theorem fX9_pass_30 : fet (cdT 50) 30 = some (.iconst 0, 0, 0) := by decide +kernel
theorem fX9_pass_31 : fet (cdT 50) 31 = some (.istore_n 2, 0, 0) := by decide +kernel
theorem fX9_pass_32 : fet (cdT 50) 32 = some (.iload_n 2, 0, 0) := by decide +kernel
theorem fX9_pass_33 : fet (cdT 50) 33 = some (.iload_n 1, 0, 0) := by decide +kernel
theorem fX9_pass_34 : fet (cdT 50) 34 = some (.if_icmp .ge 13, 0, 0) := by decide +kernel
theorem fX9_pass_37 : fet (cdT 50) 37 = some (.aload_n 0, 0, 0) := by decide +kernel
theorem fX9_pass_38 : fet (cdT 50) 38 = some (.invokevirtual 246, 89, 0) := by decide +kernel
theorem fX9_pass_41 : fet (cdT 50) 41 = some (.iinc 2 1, 0, 0) := by decide +kernel
theorem fX9_pass_44 : fet (cdT 50) 44 = some (.goto (-12), 0, 0) := by decide +kernel
theorem fX9_pass_47 : fet (cdT 50) 47 = some (.aload_n 0, 0, 0) := by decide +kernel
theorem fX9_pass_48 : fet (cdT 50) 48 = some (.getfield 242, 9, 7) := by decide +kernel
theorem fX9_pass_51 : fet (cdT 50) 51 = some (.ireturn, 0, 0) := by decide +kernel
theorem fX9_acknowledge_0 : fet (cdT 51) 0 = some (.iload_n 1, 0, 0) := by decide +kernel
theorem fX9_acknowledge_1 : fet (cdT 51) 1 = some (.invokestatic 211, 77, 1) := by decide +kernel
theorem fX9_acknowledge_4 : fet (cdT 51) 4 = some (.invokestatic 68, 74, 1) := by decide +kernel
theorem fX9_acknowledge_7 : fet (cdT 51) 7 = some (.aload_n 0, 0, 0) := by decide +kernel
theorem fX9_acknowledge_8 : fet (cdT 51) 8 = some (.getfield 22, 9, 2) := by decide +kernel
theorem fX9_acknowledge_11 : fet (cdT 51) 11 = some (.getfield 249, 5, 9) := by decide +kernel
theorem fX9_acknowledge_14 : fet (cdT 51) 14 = some (.iload_n 1, 0, 0) := by decide +kernel
theorem fX9_acknowledge_15 : fet (cdT 51) 15 = some (.invokevirtual 253, 2, 0) := by decide +kernel
theorem fX9_acknowledge_18 : fet (cdT 51) 18 = some (.ifCond .le 7, 0, 0) := by decide +kernel
theorem fX9_acknowledge_21 : fet (cdT 51) 21 = some (.iconst 1, 0, 0) := by decide +kernel
theorem fX9_acknowledge_22 : fet (cdT 51) 22 = some (.goto 4, 0, 0) := by decide +kernel
theorem fX9_acknowledge_25 : fet (cdT 51) 25 = some (.iconst 0, 0, 0) := by decide +kernel
theorem fX9_acknowledge_26 : fet (cdT 51) 26 = some (.istore_n 2, 0, 0) := by decide +kernel
theorem fX9_acknowledge_27 : fet (cdT 51) 27 = some (.iload_n 2, 0, 0) := by decide +kernel
theorem fX9_acknowledge_28 : fet (cdT 51) 28 = some (.ifCond .eq 14, 0, 0) := by decide +kernel
theorem fX9_acknowledge_31 : fet (cdT 51) 31 = some (.aload_n 0, 0, 0) := by decide +kernel
theorem fX9_acknowledge_32 : fet (cdT 51) 32 = some (.getfield 22, 9, 2) := by decide +kernel
theorem fX9_acknowledge_35 : fet (cdT 51) 35 = some (.getfield 249, 5, 9) := by decide +kernel
theorem fX9_acknowledge_38 : fet (cdT 51) 38 = some (.iload_n 1, 0, 0) := by decide +kernel
theorem fX9_acknowledge_39 : fet (cdT 51) 39 = some (.invokevirtual 258, 7, 0) := by decide +kernel
theorem fX9_acknowledge_42 : fet (cdT 51) 42 = some (.iload_n 2, 0, 0) := by decide +kernel
theorem fX9_acknowledge_43 : fet (cdT 51) 43 = some (.ireturn, 0, 0) := by decide +kernel
theorem fX9_shelve_0 : fet (cdT 52) 0 = some (.iload_n 1, 0, 0) := by decide +kernel
theorem fX9_shelve_1 : fet (cdT 52) 1 = some (.invokestatic 211, 77, 1) := by decide +kernel
theorem fX9_shelve_4 : fet (cdT 52) 4 = some (.ifCond .eq 18, 0, 0) := by decide +kernel
theorem fX9_shelve_7 : fet (cdT 52) 7 = some (.iload_n 2, 0, 0) := by decide +kernel
theorem fX9_shelve_8 : fet (cdT 52) 8 = some (.iconst 0, 0, 0) := by decide +kernel
theorem fX9_shelve_9 : fet (cdT 52) 9 = some (.sipush 999, 0, 0) := by decide +kernel
theorem fX9_shelve_12 : fet (cdT 52) 12 = some (.invokestatic 146, 75, 1) := by decide +kernel
theorem fX9_shelve_15 : fet (cdT 52) 15 = some (.ifCond .eq 7, 0, 0) := by decide +kernel
theorem fX9_shelve_18 : fet (cdT 52) 18 = some (.iconst 1, 0, 0) := by decide +kernel
theorem fX9_shelve_19 : fet (cdT 52) 19 = some (.goto 4, 0, 0) := by decide +kernel
theorem fX9_shelve_22 : fet (cdT 52) 22 = some (.iconst 0, 0, 0) := by decide +kernel
theorem fX9_shelve_23 : fet (cdT 52) 23 = some (.invokestatic 68, 74, 1) := by decide +kernel
theorem fX9_shelve_26 : fet (cdT 52) 26 = some (.aload_n 0, 0, 0) := by decide +kernel
theorem fX9_shelve_27 : fet (cdT 52) 27 = some (.getfield 22, 9, 2) := by decide +kernel
theorem fX9_shelve_30 : fet (cdT 52) 30 = some (.getfield 249, 5, 9) := by decide +kernel
theorem fX9_shelve_33 : fet (cdT 52) 33 = some (.getfield 261, 0, 2) := by decide +kernel
theorem fX9_shelve_36 : fet (cdT 52) 36 = some (.iload_n 1, 0, 0) := by decide +kernel
theorem fX9_shelve_37 : fet (cdT 52) 37 = some (.iaload, 0, 0) := by decide +kernel
theorem fX9_shelve_38 : fet (cdT 52) 38 = some (.istore_n 3, 0, 0) := by decide +kernel
theorem fX9_shelve_39 : fet (cdT 52) 39 = some (.aload_n 0, 0, 0) := by decide +kernel
theorem fX9_shelve_40 : fet (cdT 52) 40 = some (.getfield 22, 9, 2) := by decide +kernel
theorem fX9_shelve_43 : fet (cdT 52) 43 = some (.getfield 249, 5, 9) := by decide +kernel
theorem fX9_shelve_46 : fet (cdT 52) 46 = some (.iload_n 1, 0, 0) := by decide +kernel
theorem fX9_shelve_47 : fet (cdT 52) 47 = some (.iload_n 2, 0, 0) := by decide +kernel
theorem fX9_shelve_48 : fet (cdT 52) 48 = some (.invokevirtual 264, 8, 0) := by decide +kernel
theorem fX9_shelve_51 : fet (cdT 52) 51 = some (.iload_n 3, 0, 0) := by decide +kernel
theorem fX9_shelve_52 : fet (cdT 52) 52 = some (.ireturn, 0, 0) := by decide +kernel
theorem fX9_fail_0 : fet (cdT 53) 0 = some (.aload_n 0, 0, 0) := by decide +kernel
theorem fX9_fail_1 : fet (cdT 53) 1 = some (.getfield 32, 9, 4) := by decide +kernel
theorem fX9_fail_4 : fet (cdT 53) 4 = some (.getfield 268, 4, 1) := by decide +kernel
theorem fX9_fail_7 : fet (cdT 53) 7 = some (.ifCond .eq 17, 0, 0) := by decide +kernel
theorem fX9_fail_10 : fet (cdT 53) 10 = some (.aload_n 0, 0, 0) := by decide +kernel
theorem fX9_fail_11 : fet (cdT 53) 11 = some (.getfield 32, 9, 4) := by decide +kernel
theorem fX9_fail_14 : fet (cdT 53) 14 = some (.getfield 271, 4, 2) := by decide +kernel
theorem fX9_fail_17 : fet (cdT 53) 17 = some (.ifCond .eq 7, 0, 0) := by decide +kernel
theorem fX9_fail_20 : fet (cdT 53) 20 = some (.iconst 1, 0, 0) := by decide +kernel
theorem fX9_fail_21 : fet (cdT 53) 21 = some (.goto 4, 0, 0) := by decide +kernel
theorem fX9_fail_24 : fet (cdT 53) 24 = some (.iconst 0, 0, 0) := by decide +kernel
theorem fX9_fail_25 : fet (cdT 53) 25 = some (.istore_n 1, 0, 0) := by decide +kernel
theorem fX9_fail_26 : fet (cdT 53) 26 = some (.iload_n 1, 0, 0) := by decide +kernel
theorem fX9_fail_27 : fet (cdT 53) 27 = some (.ifCond .eq 28, 0, 0) := by decide +kernel
theorem fX9_fail_30 : fet (cdT 53) 30 = some (.aload_n 0, 0, 0) := by decide +kernel
theorem fX9_fail_31 : fet (cdT 53) 31 = some (.getfield 22, 9, 2) := by decide +kernel
theorem fX9_fail_34 : fet (cdT 53) 34 = some (.aload_n 0, 0, 0) := by decide +kernel
theorem fX9_fail_35 : fet (cdT 53) 35 = some (.getfield 32, 9, 4) := by decide +kernel
theorem fX9_fail_38 : fet (cdT 53) 38 = some (.getfield 274, 4, 0) := by decide +kernel
theorem fX9_fail_41 : fet (cdT 53) 41 = some (.invokevirtual 277, 29, 0) := by decide +kernel
theorem fX9_fail_44 : fet (cdT 53) 44 = some (.aload_n 0, 0, 0) := by decide +kernel
theorem fX9_fail_45 : fet (cdT 53) 45 = some (.getfield 32, 9, 4) := by decide +kernel
theorem fX9_fail_48 : fet (cdT 53) 48 = some (.iconst 1, 0, 0) := by decide +kernel
theorem fX9_fail_49 : fet (cdT 53) 49 = some (.putfield 279, 4, 4) := by decide +kernel
theorem fX9_fail_52 : fet (cdT 53) 52 = some (.goto 7, 0, 0) := by decide +kernel
theorem fX9_fail_55 : fet (cdT 53) 55 = some (.aload_n 0, 0, 0) := by decide +kernel
theorem fX9_fail_56 : fet (cdT 53) 56 = some (.invokevirtual 282, 93, 0) := by decide +kernel
theorem fX9_fail_59 : fet (cdT 53) 59 = some (.aload_n 0, 0, 0) := by decide +kernel
theorem fX9_fail_60 : fet (cdT 53) 60 = some (.getfield 32, 9, 4) := by decide +kernel
theorem fX9_fail_63 : fet (cdT 53) 63 = some (.iconst 0, 0, 0) := by decide +kernel
theorem fX9_fail_64 : fet (cdT 53) 64 = some (.putfield 268, 4, 1) := by decide +kernel
theorem fX9_fail_67 : fet (cdT 53) 67 = some (.aload_n 0, 0, 0) := by decide +kernel
theorem fX9_fail_68 : fet (cdT 53) 68 = some (.getfield 32, 9, 4) := by decide +kernel
theorem fX9_fail_71 : fet (cdT 53) 71 = some (.iconst 0, 0, 0) := by decide +kernel
theorem fX9_fail_72 : fet (cdT 53) 72 = some (.putfield 285, 4, 3) := by decide +kernel
theorem fX9_fail_75 : fet (cdT 53) 75 = some (.iload_n 1, 0, 0) := by decide +kernel
theorem fX9_fail_76 : fet (cdT 53) 76 = some (.ireturn, 0, 0) := by decide +kernel
theorem fX9_come_0 : fet (cdT 54) 0 = some (.aload_n 0, 0, 0) := by decide +kernel
theorem fX9_come_1 : fet (cdT 54) 1 = some (.getfield 32, 9, 4) := by decide +kernel
theorem fX9_come_4 : fet (cdT 54) 4 = some (.getfield 268, 4, 1) := by decide +kernel
theorem fX9_come_7 : fet (cdT 54) 7 = some (.ifCond .ne 13, 0, 0) := by decide +kernel
theorem fX9_come_10 : fet (cdT 54) 10 = some (.aload_n 0, 0, 0) := by decide +kernel
theorem fX9_come_11 : fet (cdT 54) 11 = some (.getfield 32, 9, 4) := by decide +kernel
theorem fX9_come_14 : fet (cdT 54) 14 = some (.getfield 285, 4, 3) := by decide +kernel
theorem fX9_come_17 : fet (cdT 54) 17 = some (.ifCond .eq 5, 0, 0) := by decide +kernel
theorem fX9_come_20 : fet (cdT 54) 20 = some (.iconst 0, 0, 0) := by decide +kernel
theorem fX9_come_21 : fet (cdT 54) 21 = some (.ireturn, 0, 0) := by decide +kernel
theorem fX9_come_22 : fet (cdT 54) 22 = some (.aload_n 0, 0, 0) := by decide +kernel
theorem fX9_come_23 : fet (cdT 54) 23 = some (.getfield 32, 9, 4) := by decide +kernel
theorem fX9_come_26 : fet (cdT 54) 26 = some (.iconst 1, 0, 0) := by decide +kernel
theorem fX9_come_27 : fet (cdT 54) 27 = some (.putfield 285, 4, 3) := by decide +kernel
theorem fX9_come_30 : fet (cdT 54) 30 = some (.iconst 1, 0, 0) := by decide +kernel
theorem fX9_come_31 : fet (cdT 54) 31 = some (.ireturn, 0, 0) := by decide +kernel
theorem fX9_reset_0 : fet (cdT 55) 0 = some (.aload_n 0, 0, 0) := by decide +kernel
theorem fX9_reset_1 : fet (cdT 55) 1 = some (.getfield 22, 9, 2) := by decide +kernel
theorem fX9_reset_4 : fet (cdT 55) 4 = some (.aload_n 0, 0, 0) := by decide +kernel
theorem fX9_reset_5 : fet (cdT 55) 5 = some (.getfield 242, 9, 7) := by decide +kernel
theorem fX9_reset_8 : fet (cdT 55) 8 = some (.invokevirtual 288, 28, 0) := by decide +kernel
theorem fX9_reset_11 : fet (cdT 55) 11 = some (.aload_n 0, 0, 0) := by decide +kernel
theorem fX9_reset_12 : fet (cdT 55) 12 = some (.getfield 32, 9, 4) := by decide +kernel
theorem fX9_reset_15 : fet (cdT 55) 15 = some (.invokevirtual 290, 25, 0) := by decide +kernel
theorem fX9_reset_18 : fet (cdT 55) 18 = some (.aload_n 0, 0, 0) := by decide +kernel
theorem fX9_reset_19 : fet (cdT 55) 19 = some (.iconst 0, 0, 0) := by decide +kernel
theorem fX9_reset_20 : fet (cdT 55) 20 = some (.putfield 291, 9, 12) := by decide +kernel
theorem fX9_reset_23 : fet (cdT 55) 23 = some (.aload_n 0, 0, 0) := by decide +kernel
theorem fX9_reset_24 : fet (cdT 55) 24 = some (.getfield 39, 9, 5) := by decide +kernel
theorem fX9_reset_27 : fet (cdT 55) 27 = some (.invokevirtual 294, 15, 0) := by decide +kernel
theorem fX9_reset_30 : fet (cdT 55) 30 = some (.aload_n 0, 0, 0) := by decide +kernel
theorem fX9_reset_31 : fet (cdT 55) 31 = some (.getfield 39, 9, 5) := by decide +kernel
theorem fX9_reset_34 : fet (cdT 55) 34 = some (.aload_n 0, 0, 0) := by decide +kernel
theorem fX9_reset_35 : fet (cdT 55) 35 = some (.getfield 224, 9, 9) := by decide +kernel
theorem fX9_reset_38 : fet (cdT 55) 38 = some (.invokestatic 297, 85, 1) := by decide +kernel
theorem fX9_reset_41 : fet (cdT 55) 41 = some (.invokevirtual 300, 12, 0) := by decide +kernel
theorem fX9_reset_44 : fet (cdT 55) 44 = some (.aload_n 0, 0, 0) := by decide +kernel
theorem fX9_reset_45 : fet (cdT 55) 45 = some (.getfield 242, 9, 7) := by decide +kernel
theorem fX9_reset_48 : fet (cdT 55) 48 = some (.ireturn, 0, 0) := by decide +kernel
theorem fX9_bit_0 : fet (cdT 56) 0 = some (.iload_n 1, 0, 0) := by decide +kernel
theorem fX9_bit_1 : fet (cdT 56) 1 = some (.invokestatic 115, 78, 1) := by decide +kernel
theorem fX9_bit_4 : fet (cdT 56) 4 = some (.invokestatic 68, 74, 1) := by decide +kernel
theorem fX9_bit_7 : fet (cdT 56) 7 = some (.aload_n 0, 0, 0) := by decide +kernel
theorem fX9_bit_8 : fet (cdT 56) 8 = some (.invokevirtual 303, 86, 0) := by decide +kernel
theorem fX9_bit_11 : fet (cdT 56) 11 = some (.iload_n 1, 0, 0) := by decide +kernel
theorem fX9_bit_12 : fet (cdT 56) 12 = some (.invokestatic 217, 83, 1) := by decide +kernel
theorem fX9_bit_15 : fet (cdT 56) 15 = some (.ifCond .eq 7, 0, 0) := by decide +kernel
theorem fX9_bit_18 : fet (cdT 56) 18 = some (.iconst 1, 0, 0) := by decide +kernel
theorem fX9_bit_19 : fet (cdT 56) 19 = some (.goto 4, 0, 0) := by decide +kernel
theorem fX9_bit_22 : fet (cdT 56) 22 = some (.iconst 0, 0, 0) := by decide +kernel
theorem fX9_bit_23 : fet (cdT 56) 23 = some (.ireturn, 0, 0) := by decide +kernel
theorem fX9_given_0 : fet (cdT 57) 0 = some (.iload_n 1, 0, 0) := by decide +kernel
theorem fX9_given_1 : fet (cdT 57) 1 = some (.invokestatic 211, 77, 1) := by decide +kernel
theorem fX9_given_4 : fet (cdT 57) 4 = some (.invokestatic 68, 74, 1) := by decide +kernel
theorem fX9_given_7 : fet (cdT 57) 7 = some (.aload_n 0, 0, 0) := by decide +kernel
theorem fX9_given_8 : fet (cdT 57) 8 = some (.getfield 39, 9, 5) := by decide +kernel
theorem fX9_given_11 : fet (cdT 57) 11 = some (.getfield 306, 1, 1) := by decide +kernel
theorem fX9_given_14 : fet (cdT 57) 14 = some (.iload_n 1, 0, 0) := by decide +kernel
theorem fX9_given_15 : fet (cdT 57) 15 = some (.invokestatic 217, 83, 1) := by decide +kernel
theorem fX9_given_18 : fet (cdT 57) 18 = some (.ifCond .eq 7, 0, 0) := by decide +kernel
theorem fX9_given_21 : fet (cdT 57) 21 = some (.iconst 1, 0, 0) := by decide +kernel
theorem fX9_given_22 : fet (cdT 57) 22 = some (.goto 4, 0, 0) := by decide +kernel
theorem fX9_given_25 : fet (cdT 57) 25 = some (.iconst 0, 0, 0) := by decide +kernel
theorem fX9_given_26 : fet (cdT 57) 26 = some (.ireturn, 0, 0) := by decide +kernel
theorem fX9_number_0 : fet (cdT 58) 0 = some (.iload_n 1, 0, 0) := by decide +kernel
theorem fX9_number_1 : fet (cdT 58) 1 = some (.invokestatic 211, 77, 1) := by decide +kernel
theorem fX9_number_4 : fet (cdT 58) 4 = some (.invokestatic 68, 74, 1) := by decide +kernel
theorem fX9_number_7 : fet (cdT 58) 7 = some (.aload_n 0, 0, 0) := by decide +kernel
theorem fX9_number_8 : fet (cdT 58) 8 = some (.getfield 22, 9, 2) := by decide +kernel
theorem fX9_number_11 : fet (cdT 58) 11 = some (.getfield 309, 5, 4) := by decide +kernel
theorem fX9_number_14 : fet (cdT 58) 14 = some (.iload_n 1, 0, 0) := by decide +kernel
theorem fX9_number_15 : fet (cdT 58) 15 = some (.iaload, 0, 0) := by decide +kernel
theorem fX9_number_16 : fet (cdT 58) 16 = some (.ireturn, 0, 0) := by decide +kernel
theorem fX9_timer_0 : fet (cdT 59) 0 = some (.iload_n 1, 0, 0) := by decide +kernel
theorem fX9_timer_1 : fet (cdT 59) 1 = some (.invokestatic 211, 77, 1) := by decide +kernel
theorem fX9_timer_4 : fet (cdT 59) 4 = some (.invokestatic 68, 74, 1) := by decide +kernel
theorem fX9_timer_7 : fet (cdT 59) 7 = some (.aload_n 0, 0, 0) := by decide +kernel
theorem fX9_timer_8 : fet (cdT 59) 8 = some (.getfield 22, 9, 2) := by decide +kernel
theorem fX9_timer_11 : fet (cdT 59) 11 = some (.getfield 312, 5, 5) := by decide +kernel
theorem fX9_timer_14 : fet (cdT 59) 14 = some (.iload_n 1, 0, 0) := by decide +kernel
theorem fX9_timer_15 : fet (cdT 59) 15 = some (.iaload, 0, 0) := by decide +kernel
theorem fX9_timer_16 : fet (cdT 59) 16 = some (.ireturn, 0, 0) := by decide +kernel
theorem fX9_isActive_0 : fet (cdT 60) 0 = some (.iload_n 1, 0, 0) := by decide +kernel
theorem fX9_isActive_1 : fet (cdT 60) 1 = some (.invokestatic 315, 80, 1) := by decide +kernel
theorem fX9_isActive_4 : fet (cdT 60) 4 = some (.invokestatic 68, 74, 1) := by decide +kernel
theorem fX9_isActive_7 : fet (cdT 60) 7 = some (.aload_n 0, 0, 0) := by decide +kernel
theorem fX9_isActive_8 : fet (cdT 60) 8 = some (.getfield 22, 9, 2) := by decide +kernel
theorem fX9_isActive_11 : fet (cdT 60) 11 = some (.getfield 194, 5, 1) := by decide +kernel
theorem fX9_isActive_14 : fet (cdT 60) 14 = some (.iload_n 1, 0, 0) := by decide +kernel
theorem fX9_isActive_15 : fet (cdT 60) 15 = some (.invokestatic 217, 83, 1) := by decide +kernel
theorem fX9_isActive_18 : fet (cdT 60) 18 = some (.ireturn, 0, 0) := by decide +kernel
theorem fX9_stepTime_0 : fet (cdT 61) 0 = some (.iload_n 1, 0, 0) := by decide +kernel
theorem fX9_stepTime_1 : fet (cdT 61) 1 = some (.invokestatic 315, 80, 1) := by decide +kernel
theorem fX9_stepTime_4 : fet (cdT 61) 4 = some (.invokestatic 68, 74, 1) := by decide +kernel
theorem fX9_stepTime_7 : fet (cdT 61) 7 = some (.aload_n 0, 0, 0) := by decide +kernel
theorem fX9_stepTime_8 : fet (cdT 61) 8 = some (.getfield 22, 9, 2) := by decide +kernel
theorem fX9_stepTime_11 : fet (cdT 61) 11 = some (.getfield 194, 5, 1) := by decide +kernel
theorem fX9_stepTime_14 : fet (cdT 61) 14 = some (.iload_n 1, 0, 0) := by decide +kernel
theorem fX9_stepTime_15 : fet (cdT 61) 15 = some (.invokestatic 217, 83, 1) := by decide +kernel
theorem fX9_stepTime_18 : fet (cdT 61) 18 = some (.ifCond .ne 11, 0, 0) := by decide +kernel
theorem fX9_stepTime_21 : fet (cdT 61) 21 = some (.new 110, 3, 1) := by decide +kernel
theorem fX9_stepTime_29 : fet (cdT 61) 29 = some (.aload_n 0, 0, 0) := by decide +kernel
theorem fX9_stepTime_30 : fet (cdT 61) 30 = some (.getfield 22, 9, 2) := by decide +kernel
theorem fX9_stepTime_33 : fet (cdT 61) 33 = some (.getfield 318, 5, 6) := by decide +kernel
theorem fX9_stepTime_36 : fet (cdT 61) 36 = some (.iload_n 1, 0, 0) := by decide +kernel
theorem fX9_stepTime_37 : fet (cdT 61) 37 = some (.iaload, 0, 0) := by decide +kernel
theorem fX9_stepTime_38 : fet (cdT 61) 38 = some (.ireturn, 0, 0) := by decide +kernel
theorem fX9_alarm_0 : fet (cdT 62) 0 = some (.iload_n 1, 0, 0) := by decide +kernel
theorem fX9_alarm_1 : fet (cdT 62) 1 = some (.invokestatic 211, 77, 1) := by decide +kernel
theorem fX9_alarm_4 : fet (cdT 62) 4 = some (.invokestatic 68, 74, 1) := by decide +kernel
theorem fX9_alarm_7 : fet (cdT 62) 7 = some (.aload_n 0, 0, 0) := by decide +kernel
theorem fX9_alarm_8 : fet (cdT 62) 8 = some (.getfield 22, 9, 2) := by decide +kernel
theorem fX9_alarm_11 : fet (cdT 62) 11 = some (.getfield 249, 5, 9) := by decide +kernel
theorem fX9_alarm_14 : fet (cdT 62) 14 = some (.iload_n 1, 0, 0) := by decide +kernel
theorem fX9_alarm_15 : fet (cdT 62) 15 = some (.invokevirtual 321, 10, 0) := by decide +kernel
theorem fX9_alarm_18 : fet (cdT 62) 18 = some (.ireturn, 0, 0) := by decide +kernel
theorem fX9_alarms_0 : fet (cdT 63) 0 = some (.aload_n 0, 0, 0) := by decide +kernel
theorem fX9_alarms_1 : fet (cdT 63) 1 = some (.getfield 22, 9, 2) := by decide +kernel
theorem fX9_alarms_4 : fet (cdT 63) 4 = some (.getfield 249, 5, 9) := by decide +kernel
theorem fX9_alarms_7 : fet (cdT 63) 7 = some (.getfield 325, 0, 4) := by decide +kernel
theorem fX9_alarms_10 : fet (cdT 63) 10 = some (.ireturn, 0, 0) := by decide +kernel
theorem fX9_alarmAt_0 : fet (cdT 64) 0 = some (.iload_n 1, 0, 0) := by decide +kernel
theorem fX9_alarmAt_1 : fet (cdT 64) 1 = some (.ifCond .lt 17, 0, 0) := by decide +kernel
theorem fX9_alarmAt_4 : fet (cdT 64) 4 = some (.iload_n 1, 0, 0) := by decide +kernel
theorem fX9_alarmAt_5 : fet (cdT 64) 5 = some (.aload_n 0, 0, 0) := by decide +kernel
theorem fX9_alarmAt_6 : fet (cdT 64) 6 = some (.getfield 22, 9, 2) := by decide +kernel
theorem fX9_alarmAt_9 : fet (cdT 64) 9 = some (.getfield 249, 5, 9) := by decide +kernel
theorem fX9_alarmAt_12 : fet (cdT 64) 12 = some (.getfield 325, 0, 4) := by decide +kernel
theorem fX9_alarmAt_15 : fet (cdT 64) 15 = some (.if_icmp .lt 11, 0, 0) := by decide +kernel
theorem fX9_alarmAt_18 : fet (cdT 64) 18 = some (.new 328, 0, 1) := by decide +kernel
theorem fX9_alarmAt_26 : fet (cdT 64) 26 = some (.aload_n 0, 0, 0) := by decide +kernel
theorem fX9_alarmAt_27 : fet (cdT 64) 27 = some (.getfield 22, 9, 2) := by decide +kernel
theorem fX9_alarmAt_30 : fet (cdT 64) 30 = some (.getfield 249, 5, 9) := by decide +kernel
theorem fX9_alarmAt_33 : fet (cdT 64) 33 = some (.getfield 331, 0, 3) := by decide +kernel
theorem fX9_alarmAt_36 : fet (cdT 64) 36 = some (.iload_n 1, 0, 0) := by decide +kernel
theorem fX9_alarmAt_37 : fet (cdT 64) 37 = some (.iaload, 0, 0) := by decide +kernel
theorem fX9_alarmAt_38 : fet (cdT 64) 38 = some (.ireturn, 0, 0) := by decide +kernel
theorem fX9_time_0 : fet (cdT 65) 0 = some (.aload_n 0, 0, 0) := by decide +kernel
theorem fX9_time_1 : fet (cdT 65) 1 = some (.getfield 242, 9, 7) := by decide +kernel
theorem fX9_time_4 : fet (cdT 65) 4 = some (.ireturn, 0, 0) := by decide +kernel
theorem fX9_scans_0 : fet (cdT 66) 0 = some (.iload_n 1, 0, 0) := by decide +kernel
theorem fX9_scans_1 : fet (cdT 66) 1 = some (.invokestatic 56, 76, 1) := by decide +kernel
theorem fX9_scans_4 : fet (cdT 66) 4 = some (.invokestatic 68, 74, 1) := by decide +kernel
theorem fX9_scans_7 : fet (cdT 66) 7 = some (.aload_n 0, 0, 0) := by decide +kernel
theorem fX9_scans_8 : fet (cdT 66) 8 = some (.getfield 48, 9, 6) := by decide +kernel
theorem fX9_scans_11 : fet (cdT 66) 11 = some (.iload_n 1, 0, 0) := by decide +kernel
theorem fX9_scans_12 : fet (cdT 66) 12 = some (.aaload, 0, 0) := by decide +kernel
theorem fX9_scans_13 : fet (cdT 66) 13 = some (.getfield 334, 7, 2) := by decide +kernel
theorem fX9_scans_16 : fet (cdT 66) 16 = some (.ireturn, 0, 0) := by decide +kernel
theorem fX9_missed_0 : fet (cdT 67) 0 = some (.iload_n 1, 0, 0) := by decide +kernel
theorem fX9_missed_1 : fet (cdT 67) 1 = some (.invokestatic 56, 76, 1) := by decide +kernel
theorem fX9_missed_4 : fet (cdT 67) 4 = some (.invokestatic 68, 74, 1) := by decide +kernel
theorem fX9_missed_7 : fet (cdT 67) 7 = some (.aload_n 0, 0, 0) := by decide +kernel
theorem fX9_missed_8 : fet (cdT 67) 8 = some (.getfield 48, 9, 6) := by decide +kernel
theorem fX9_missed_11 : fet (cdT 67) 11 = some (.iload_n 1, 0, 0) := by decide +kernel
theorem fX9_missed_12 : fet (cdT 67) 12 = some (.aaload, 0, 0) := by decide +kernel
theorem fX9_missed_13 : fet (cdT 67) 13 = some (.getfield 337, 7, 3) := by decide +kernel
theorem fX9_missed_16 : fet (cdT 67) 16 = some (.ireturn, 0, 0) := by decide +kernel
theorem fX9_isStopped_0 : fet (cdT 68) 0 = some (.aload_n 0, 0, 0) := by decide +kernel
theorem fX9_isStopped_1 : fet (cdT 68) 1 = some (.getfield 291, 9, 12) := by decide +kernel
theorem fX9_isStopped_4 : fet (cdT 68) 4 = some (.ireturn, 0, 0) := by decide +kernel
theorem fX9_isInStep_0 : fet (cdT 69) 0 = some (.aload_n 0, 0, 0) := by decide +kernel
theorem fX9_isInStep_1 : fet (cdT 69) 1 = some (.getfield 32, 9, 4) := by decide +kernel
theorem fX9_isInStep_4 : fet (cdT 69) 4 = some (.getfield 268, 4, 1) := by decide +kernel
theorem fX9_isInStep_7 : fet (cdT 69) 7 = some (.ireturn, 0, 0) := by decide +kernel
theorem fX9_rungs_0 : fet (cdT 70) 0 = some (.aload_n 0, 0, 0) := by decide +kernel
theorem fX9_rungs_1 : fet (cdT 70) 1 = some (.getfield 10, 9, 0) := by decide +kernel
theorem fX9_rungs_4 : fet (cdT 70) 4 = some (.getfield 79, 2, 0) := by decide +kernel
theorem fX9_rungs_7 : fet (cdT 70) 7 = some (.ireturn, 0, 0) := by decide +kernel
theorem fX9_changes_0 : fet (cdT 71) 0 = some (.iload_n 1, 0, 0) := by decide +kernel
theorem fX9_changes_1 : fet (cdT 71) 1 = some (.invokestatic 211, 77, 1) := by decide +kernel
theorem fX9_changes_4 : fet (cdT 71) 4 = some (.invokestatic 68, 74, 1) := by decide +kernel
theorem fX9_changes_7 : fet (cdT 71) 7 = some (.aload_n 0, 0, 0) := by decide +kernel
theorem fX9_changes_8 : fet (cdT 71) 8 = some (.getfield 39, 9, 5) := by decide +kernel
theorem fX9_changes_11 : fet (cdT 71) 11 = some (.getfield 345, 1, 2) := by decide +kernel
theorem fX9_changes_14 : fet (cdT 71) 14 = some (.iload_n 1, 0, 0) := by decide +kernel
theorem fX9_changes_15 : fet (cdT 71) 15 = some (.iaload, 0, 0) := by decide +kernel
theorem fX9_changes_16 : fet (cdT 71) 16 = some (.ireturn, 0, 0) := by decide +kernel
theorem fX9_done_0 : fet (cdT 72) 0 = some (.aload_n 0, 0, 0) := by decide +kernel
theorem fX9_done_1 : fet (cdT 72) 1 = some (.getfield 348, 9, 13) := by decide +kernel
theorem fX9_done_4 : fet (cdT 72) 4 = some (.lreturn, 0, 0) := by decide +kernel
theorem fX9_isSound_0 : fet (cdT 73) 0 = some (.aload_n 0, 0, 0) := by decide +kernel
theorem fX9_isSound_1 : fet (cdT 73) 1 = some (.getfield 10, 9, 0) := by decide +kernel
theorem fX9_isSound_4 : fet (cdT 73) 4 = some (.invokevirtual 190, 21, 0) := by decide +kernel
theorem fX9_isSound_7 : fet (cdT 73) 7 = some (.iconst 1, 0, 0) := by decide +kernel
theorem fX9_isSound_8 : fet (cdT 73) 8 = some (.ior, 0, 0) := by decide +kernel
theorem fX9_isSound_9 : fet (cdT 73) 9 = some (.istore_n 1, 0, 0) := by decide +kernel
theorem fX9_isSound_10 : fet (cdT 73) 10 = some (.aload_n 0, 0, 0) := by decide +kernel
theorem fX9_isSound_11 : fet (cdT 73) 11 = some (.getfield 22, 9, 2) := by decide +kernel
theorem fX9_isSound_14 : fet (cdT 73) 14 = some (.getfield 249, 5, 9) := by decide +kernel
theorem fX9_isSound_17 : fet (cdT 73) 17 = some (.invokevirtual 355, 11, 0) := by decide +kernel
theorem fX9_isSound_20 : fet (cdT 73) 20 = some (.ifCond .eq 21, 0, 0) := by decide +kernel
theorem fX9_isSound_23 : fet (cdT 73) 23 = some (.aload_n 0, 0, 0) := by decide +kernel
theorem fX9_isSound_24 : fet (cdT 73) 24 = some (.getfield 22, 9, 2) := by decide +kernel
theorem fX9_isSound_27 : fet (cdT 73) 27 = some (.getfield 194, 5, 1) := by decide +kernel
theorem fX9_isSound_30 : fet (cdT 73) 30 = some (.iload_n 1, 0, 0) := by decide +kernel
theorem fX9_isSound_31 : fet (cdT 73) 31 = some (.iconst (-1), 0, 0) := by decide +kernel
theorem fX9_isSound_32 : fet (cdT 73) 32 = some (.ixor, 0, 0) := by decide +kernel
theorem fX9_isSound_33 : fet (cdT 73) 33 = some (.iand, 0, 0) := by decide +kernel
theorem fX9_isSound_34 : fet (cdT 73) 34 = some (.ifCond .ne 7, 0, 0) := by decide +kernel
theorem fX9_isSound_37 : fet (cdT 73) 37 = some (.iconst 1, 0, 0) := by decide +kernel
theorem fX9_isSound_38 : fet (cdT 73) 38 = some (.goto 4, 0, 0) := by decide +kernel
theorem fX9_isSound_41 : fet (cdT 73) 41 = some (.iconst 0, 0, 0) := by decide +kernel
theorem fX9_isSound_42 : fet (cdT 73) 42 = some (.ireturn, 0, 0) := by decide +kernel
theorem fX9_require_0 : fet (cdT 74) 0 = some (.iload_n 0, 0, 0) := by decide +kernel
theorem fX9_require_1 : fet (cdT 74) 1 = some (.ifCond .ne 11, 0, 0) := by decide +kernel
theorem fX9_require_4 : fet (cdT 74) 4 = some (.new 359, 1, 1) := by decide +kernel
theorem fX9_require_12 : fet (cdT 74) 12 = some (.return_, 0, 0) := by decide +kernel
theorem fX9_isBetween_0 : fet (cdT 75) 0 = some (.iload_n 0, 0, 0) := by decide +kernel
theorem fX9_isBetween_1 : fet (cdT 75) 1 = some (.iload_n 1, 0, 0) := by decide +kernel
theorem fX9_isBetween_2 : fet (cdT 75) 2 = some (.if_icmp .lt 12, 0, 0) := by decide +kernel
theorem fX9_isBetween_5 : fet (cdT 75) 5 = some (.iload_n 0, 0, 0) := by decide +kernel
theorem fX9_isBetween_6 : fet (cdT 75) 6 = some (.iload_n 2, 0, 0) := by decide +kernel
theorem fX9_isBetween_7 : fet (cdT 75) 7 = some (.if_icmp .gt 7, 0, 0) := by decide +kernel
theorem fX9_isBetween_10 : fet (cdT 75) 10 = some (.iconst 1, 0, 0) := by decide +kernel
theorem fX9_isBetween_11 : fet (cdT 75) 11 = some (.goto 4, 0, 0) := by decide +kernel
theorem fX9_isBetween_14 : fet (cdT 75) 14 = some (.iconst 0, 0, 0) := by decide +kernel
theorem fX9_isBetween_15 : fet (cdT 75) 15 = some (.ireturn, 0, 0) := by decide +kernel
theorem fX9_isTask_0 : fet (cdT 76) 0 = some (.iload_n 0, 0, 0) := by decide +kernel
theorem fX9_isTask_1 : fet (cdT 76) 1 = some (.iconst 0, 0, 0) := by decide +kernel
theorem fX9_isTask_2 : fet (cdT 76) 2 = some (.iconst 1, 0, 0) := by decide +kernel
theorem fX9_isTask_3 : fet (cdT 76) 3 = some (.invokestatic 146, 75, 1) := by decide +kernel
theorem fX9_isTask_6 : fet (cdT 76) 6 = some (.ireturn, 0, 0) := by decide +kernel
theorem fX9_isOfEight_0 : fet (cdT 77) 0 = some (.iload_n 0, 0, 0) := by decide +kernel
theorem fX9_isOfEight_1 : fet (cdT 77) 1 = some (.iconst 0, 0, 0) := by decide +kernel
theorem fX9_isOfEight_2 : fet (cdT 77) 2 = some (.bipush 7, 0, 0) := by decide +kernel
theorem fX9_isOfEight_4 : fet (cdT 77) 4 = some (.invokestatic 146, 75, 1) := by decide +kernel
theorem fX9_isOfEight_7 : fet (cdT 77) 7 = some (.ireturn, 0, 0) := by decide +kernel
theorem fX9_isBit_0 : fet (cdT 78) 0 = some (.iload_n 0, 0, 0) := by decide +kernel
theorem fX9_isBit_1 : fet (cdT 78) 1 = some (.iconst 0, 0, 0) := by decide +kernel
theorem fX9_isBit_2 : fet (cdT 78) 2 = some (.bipush 31, 0, 0) := by decide +kernel
theorem fX9_isBit_4 : fet (cdT 78) 4 = some (.invokestatic 146, 75, 1) := by decide +kernel
theorem fX9_isBit_7 : fet (cdT 78) 7 = some (.ireturn, 0, 0) := by decide +kernel
theorem fX9_isWritable_0 : fet (cdT 79) 0 = some (.iload_n 0, 0, 0) := by decide +kernel
theorem fX9_isWritable_1 : fet (cdT 79) 1 = some (.bipush 8, 0, 0) := by decide +kernel
theorem fX9_isWritable_3 : fet (cdT 79) 3 = some (.bipush 31, 0, 0) := by decide +kernel
theorem fX9_isWritable_5 : fet (cdT 79) 5 = some (.invokestatic 146, 75, 1) := by decide +kernel
theorem fX9_isWritable_8 : fet (cdT 79) 8 = some (.ireturn, 0, 0) := by decide +kernel
theorem fX9_isStep_0 : fet (cdT 80) 0 = some (.iload_n 0, 0, 0) := by decide +kernel
theorem fX9_isStep_1 : fet (cdT 80) 1 = some (.iconst 0, 0, 0) := by decide +kernel
theorem fX9_isStep_2 : fet (cdT 80) 2 = some (.bipush 11, 0, 0) := by decide +kernel
theorem fX9_isStep_4 : fet (cdT 80) 4 = some (.invokestatic 146, 75, 1) := by decide +kernel
theorem fX9_isStep_7 : fet (cdT 80) 7 = some (.ireturn, 0, 0) := by decide +kernel
theorem fX9_isFirstNumber_0 : fet (cdT 81) 0 = some (.iload_n 0, 0, 0) := by decide +kernel
theorem fX9_isFirstNumber_1 : fet (cdT 81) 1 = some (.lookupswitch 58 #[(60, 51), (61, 51), (74, 56), (114, 51), (115, 51)], 0, 0) := by decide +kernel
theorem fX9_isFirstNumber_52 : fet (cdT 81) 52 = some (.iload_n 1, 0, 0) := by decide +kernel
theorem fX9_isFirstNumber_53 : fet (cdT 81) 53 = some (.invokestatic 143, 79, 1) := by decide +kernel
theorem fX9_isFirstNumber_56 : fet (cdT 81) 56 = some (.ireturn, 0, 0) := by decide +kernel
theorem fX9_isFirstNumber_57 : fet (cdT 81) 57 = some (.iconst 1, 0, 0) := by decide +kernel
theorem fX9_isFirstNumber_58 : fet (cdT 81) 58 = some (.ireturn, 0, 0) := by decide +kernel
theorem fX9_isFirstNumber_59 : fet (cdT 81) 59 = some (.iload_n 1, 0, 0) := by decide +kernel
theorem fX9_isFirstNumber_60 : fet (cdT 81) 60 = some (.invokestatic 211, 77, 1) := by decide +kernel
theorem fX9_isFirstNumber_63 : fet (cdT 81) 63 = some (.ireturn, 0, 0) := by decide +kernel
theorem fX9_isSecondNumber_0 : fet (cdT 82) 0 = some (.iload_n 0, 0, 0) := by decide +kernel
theorem fX9_isSecondNumber_1 : fet (cdT 82) 1 = some (.lookupswitch 100 #[(43, 87), (60, 87), (67, 67), (74, 92), (82, 67), (84, 67), (107, 76)], 0, 0) := by decide +kernel
theorem fX9_isSecondNumber_68 : fet (cdT 82) 68 = some (.iload_n 1, 0, 0) := by decide +kernel
theorem fX9_isSecondNumber_69 : fet (cdT 82) 69 = some (.iconst 1, 0, 0) := by decide +kernel
theorem fX9_isSecondNumber_70 : fet (cdT 82) 70 = some (.sipush 999, 0, 0) := by decide +kernel
theorem fX9_isSecondNumber_73 : fet (cdT 82) 73 = some (.invokestatic 146, 75, 1) := by decide +kernel
theorem fX9_isSecondNumber_76 : fet (cdT 82) 76 = some (.ireturn, 0, 0) := by decide +kernel
theorem fX9_isSecondNumber_77 : fet (cdT 82) 77 = some (.iload_n 1, 0, 0) := by decide +kernel
theorem fX9_isSecondNumber_78 : fet (cdT 82) 78 = some (.sipush (-999), 0, 0) := by decide +kernel
theorem fX9_isSecondNumber_81 : fet (cdT 82) 81 = some (.sipush 999, 0, 0) := by decide +kernel
theorem fX9_isSecondNumber_84 : fet (cdT 82) 84 = some (.invokestatic 146, 75, 1) := by decide +kernel
theorem fX9_isSecondNumber_87 : fet (cdT 82) 87 = some (.ireturn, 0, 0) := by decide +kernel
theorem fX9_isSecondNumber_88 : fet (cdT 82) 88 = some (.iload_n 1, 0, 0) := by decide +kernel
theorem fX9_isSecondNumber_89 : fet (cdT 82) 89 = some (.invokestatic 211, 77, 1) := by decide +kernel
theorem fX9_isSecondNumber_92 : fet (cdT 82) 92 = some (.ireturn, 0, 0) := by decide +kernel
theorem fX9_isSecondNumber_93 : fet (cdT 82) 93 = some (.iload_n 1, 0, 0) := by decide +kernel
theorem fX9_isSecondNumber_94 : fet (cdT 82) 94 = some (.iconst 0, 0, 0) := by decide +kernel
theorem fX9_isSecondNumber_95 : fet (cdT 82) 95 = some (.bipush 39, 0, 0) := by decide +kernel
theorem fX9_isSecondNumber_97 : fet (cdT 82) 97 = some (.invokestatic 146, 75, 1) := by decide +kernel
theorem fX9_isSecondNumber_100 : fet (cdT 82) 100 = some (.ireturn, 0, 0) := by decide +kernel
theorem fX9_isSecondNumber_101 : fet (cdT 82) 101 = some (.iconst 1, 0, 0) := by decide +kernel
theorem fX9_isSecondNumber_102 : fet (cdT 82) 102 = some (.ireturn, 0, 0) := by decide +kernel
theorem fX9_isSet_0 : fet (cdT 83) 0 = some (.iload_n 0, 0, 0) := by decide +kernel
theorem fX9_isSet_1 : fet (cdT 83) 1 = some (.iload_n 1, 0, 0) := by decide +kernel
theorem fX9_isSet_2 : fet (cdT 83) 2 = some (.iushr, 0, 0) := by decide +kernel
theorem fX9_isSet_3 : fet (cdT 83) 3 = some (.iconst 1, 0, 0) := by decide +kernel
theorem fX9_isSet_4 : fet (cdT 83) 4 = some (.iand, 0, 0) := by decide +kernel
theorem fX9_isSet_5 : fet (cdT 83) 5 = some (.iconst 1, 0, 0) := by decide +kernel
theorem fX9_isSet_6 : fet (cdT 83) 6 = some (.if_icmp .ne 7, 0, 0) := by decide +kernel
theorem fX9_isSet_9 : fet (cdT 83) 9 = some (.iconst 1, 0, 0) := by decide +kernel
theorem fX9_isSet_10 : fet (cdT 83) 10 = some (.goto 4, 0, 0) := by decide +kernel
theorem fX9_isSet_13 : fet (cdT 83) 13 = some (.iconst 0, 0, 0) := by decide +kernel
theorem fX9_isSet_14 : fet (cdT 83) 14 = some (.ireturn, 0, 0) := by decide +kernel
theorem fX9_maskOf_0 : fet (cdT 84) 0 = some (.iload_n 0, 0, 0) := by decide +kernel
theorem fX9_maskOf_1 : fet (cdT 84) 1 = some (.ifCond .ge 7, 0, 0) := by decide +kernel
theorem fX9_maskOf_4 : fet (cdT 84) 4 = some (.iconst 0, 0, 0) := by decide +kernel
theorem fX9_maskOf_5 : fet (cdT 84) 5 = some (.goto 6, 0, 0) := by decide +kernel
theorem fX9_maskOf_8 : fet (cdT 84) 8 = some (.iconst 1, 0, 0) := by decide +kernel
theorem fX9_maskOf_9 : fet (cdT 84) 9 = some (.iload_n 0, 0, 0) := by decide +kernel
theorem fX9_maskOf_10 : fet (cdT 84) 10 = some (.ishl, 0, 0) := by decide +kernel
theorem fX9_maskOf_11 : fet (cdT 84) 11 = some (.ireturn, 0, 0) := by decide +kernel
theorem fX9_outputsOf_0 : fet (cdT 85) 0 = some (.iload_n 0, 0, 0) := by decide +kernel
theorem fX9_outputsOf_1 : fet (cdT 85) 1 = some (.bipush 8, 0, 0) := by decide +kernel
theorem fX9_outputsOf_3 : fet (cdT 85) 3 = some (.iushr, 0, 0) := by decide +kernel
theorem fX9_outputsOf_4 : fet (cdT 85) 4 = some (.sipush 255, 0, 0) := by decide +kernel
theorem fX9_outputsOf_7 : fet (cdT 85) 7 = some (.iand, 0, 0) := by decide +kernel
theorem fX9_outputsOf_8 : fet (cdT 85) 8 = some (.ireturn, 0, 0) := by decide +kernel
theorem fX9_readBits_0 : fet (cdT 86) 0 = some (.aload_n 0, 0, 0) := by decide +kernel
theorem fX9_readBits_1 : fet (cdT 86) 1 = some (.getfield 22, 9, 2) := by decide +kernel
theorem fX9_readBits_4 : fet (cdT 86) 4 = some (.getfield 362, 5, 0) := by decide +kernel
theorem fX9_readBits_7 : fet (cdT 86) 7 = some (.aload_n 0, 0, 0) := by decide +kernel
theorem fX9_readBits_8 : fet (cdT 86) 8 = some (.getfield 221, 9, 8) := by decide +kernel
theorem fX9_readBits_11 : fet (cdT 86) 11 = some (.iconst (-1), 0, 0) := by decide +kernel
theorem fX9_readBits_12 : fet (cdT 86) 12 = some (.ixor, 0, 0) := by decide +kernel
theorem fX9_readBits_13 : fet (cdT 86) 13 = some (.iand, 0, 0) := by decide +kernel
theorem fX9_readBits_14 : fet (cdT 86) 14 = some (.aload_n 0, 0, 0) := by decide +kernel
theorem fX9_readBits_15 : fet (cdT 86) 15 = some (.getfield 224, 9, 9) := by decide +kernel
theorem fX9_readBits_18 : fet (cdT 86) 18 = some (.ior, 0, 0) := by decide +kernel
theorem fX9_readBits_19 : fet (cdT 86) 19 = some (.ireturn, 0, 0) := by decide +kernel
theorem fX9_keepWhatWasSeen_0 : fet (cdT 87) 0 = some (.iconst 0, 0, 0) := by decide +kernel
theorem fX9_keepWhatWasSeen_1 : fet (cdT 87) 1 = some (.istore_n 1, 0, 0) := by decide +kernel
theorem fX9_keepWhatWasSeen_2 : fet (cdT 87) 2 = some (.iload_n 1, 0, 0) := by decide +kernel
theorem fX9_keepWhatWasSeen_3 : fet (cdT 87) 3 = some (.bipush 40, 0, 0) := by decide +kernel
theorem fX9_keepWhatWasSeen_5 : fet (cdT 87) 5 = some (.if_icmp .ge 120, 0, 0) := by decide +kernel
theorem fX9_keepWhatWasSeen_8 : fet (cdT 87) 8 = some (.iconst 0, 0, 0) := by decide +kernel
theorem fX9_keepWhatWasSeen_9 : fet (cdT 87) 9 = some (.istore_n 2, 0, 0) := by decide +kernel
theorem fX9_keepWhatWasSeen_10 : fet (cdT 87) 10 = some (.iconst 0, 0, 0) := by decide +kernel
theorem fX9_keepWhatWasSeen_11 : fet (cdT 87) 11 = some (.istore_n 3, 0, 0) := by decide +kernel
theorem fX9_keepWhatWasSeen_12 : fet (cdT 87) 12 = some (.iload_n 1, 0, 0) := by decide +kernel
theorem fX9_keepWhatWasSeen_13 : fet (cdT 87) 13 = some (.aload_n 0, 0, 0) := by decide +kernel
theorem fX9_keepWhatWasSeen_14 : fet (cdT 87) 14 = some (.getfield 10, 9, 0) := by decide +kernel
theorem fX9_keepWhatWasSeen_17 : fet (cdT 87) 17 = some (.getfield 79, 2, 0) := by decide +kernel
theorem fX9_keepWhatWasSeen_20 : fet (cdT 87) 20 = some (.if_icmp .ge 58, 0, 0) := by decide +kernel
theorem fX9_keepWhatWasSeen_23 : fet (cdT 87) 23 = some (.iload_n 1, 0, 0) := by decide +kernel
theorem fX9_keepWhatWasSeen_24 : fet (cdT 87) 24 = some (.aload_n 0, 0, 0) := by decide +kernel
theorem fX9_keepWhatWasSeen_25 : fet (cdT 87) 25 = some (.getfield 16, 9, 1) := by decide +kernel
theorem fX9_keepWhatWasSeen_28 : fet (cdT 87) 28 = some (.getfield 79, 2, 0) := by decide +kernel
theorem fX9_keepWhatWasSeen_31 : fet (cdT 87) 31 = some (.if_icmp .ge 47, 0, 0) := by decide +kernel
theorem fX9_keepWhatWasSeen_34 : fet (cdT 87) 34 = some (.aload_n 0, 0, 0) := by decide +kernel
theorem fX9_keepWhatWasSeen_35 : fet (cdT 87) 35 = some (.getfield 10, 9, 0) := by decide +kernel
theorem fX9_keepWhatWasSeen_38 : fet (cdT 87) 38 = some (.getfield 85, 2, 3) := by decide +kernel
theorem fX9_keepWhatWasSeen_41 : fet (cdT 87) 41 = some (.iload_n 1, 0, 0) := by decide +kernel
theorem fX9_keepWhatWasSeen_42 : fet (cdT 87) 42 = some (.aaload, 0, 0) := by decide +kernel
theorem fX9_keepWhatWasSeen_43 : fet (cdT 87) 43 = some (.aload_n 0, 0, 0) := by decide +kernel
theorem fX9_keepWhatWasSeen_44 : fet (cdT 87) 44 = some (.getfield 16, 9, 1) := by decide +kernel
theorem fX9_keepWhatWasSeen_47 : fet (cdT 87) 47 = some (.getfield 85, 2, 3) := by decide +kernel
theorem fX9_keepWhatWasSeen_50 : fet (cdT 87) 50 = some (.iload_n 1, 0, 0) := by decide +kernel
theorem fX9_keepWhatWasSeen_51 : fet (cdT 87) 51 = some (.aaload, 0, 0) := by decide +kernel
theorem fX9_keepWhatWasSeen_52 : fet (cdT 87) 52 = some (.invokestatic 364, 88, 1) := by decide +kernel
theorem fX9_keepWhatWasSeen_55 : fet (cdT 87) 55 = some (.istore_n 2, 0, 0) := by decide +kernel
theorem fX9_keepWhatWasSeen_56 : fet (cdT 87) 56 = some (.aload_n 0, 0, 0) := by decide +kernel
theorem fX9_keepWhatWasSeen_57 : fet (cdT 87) 57 = some (.getfield 10, 9, 0) := by decide +kernel
theorem fX9_keepWhatWasSeen_60 : fet (cdT 87) 60 = some (.getfield 85, 2, 3) := by decide +kernel
theorem fX9_keepWhatWasSeen_63 : fet (cdT 87) 63 = some (.iload_n 1, 0, 0) := by decide +kernel
theorem fX9_keepWhatWasSeen_64 : fet (cdT 87) 64 = some (.aaload, 0, 0) := by decide +kernel
theorem fX9_keepWhatWasSeen_65 : fet (cdT 87) 65 = some (.aload_n 0, 0, 0) := by decide +kernel
theorem fX9_keepWhatWasSeen_66 : fet (cdT 87) 66 = some (.getfield 16, 9, 1) := by decide +kernel
theorem fX9_keepWhatWasSeen_69 : fet (cdT 87) 69 = some (.getfield 85, 2, 3) := by decide +kernel
theorem fX9_keepWhatWasSeen_72 : fet (cdT 87) 72 = some (.iload_n 1, 0, 0) := by decide +kernel
theorem fX9_keepWhatWasSeen_73 : fet (cdT 87) 73 = some (.aaload, 0, 0) := by decide +kernel
theorem fX9_keepWhatWasSeen_74 : fet (cdT 87) 74 = some (.invokevirtual 368, 24, 0) := by decide +kernel
theorem fX9_keepWhatWasSeen_77 : fet (cdT 87) 77 = some (.istore_n 3, 0, 0) := by decide +kernel
theorem fX9_keepWhatWasSeen_78 : fet (cdT 87) 78 = some (.aload_n 0, 0, 0) := by decide +kernel
theorem fX9_keepWhatWasSeen_79 : fet (cdT 87) 79 = some (.getfield 22, 9, 2) := by decide +kernel
theorem fX9_keepWhatWasSeen_82 : fet (cdT 87) 82 = some (.getfield 372, 5, 7) := by decide +kernel
theorem fX9_keepWhatWasSeen_85 : fet (cdT 87) 85 = some (.iload_n 1, 0, 0) := by decide +kernel
theorem fX9_keepWhatWasSeen_86 : fet (cdT 87) 86 = some (.dup2, 0, 0) := by decide +kernel
theorem fX9_keepWhatWasSeen_87 : fet (cdT 87) 87 = some (.iaload, 0, 0) := by decide +kernel
theorem fX9_keepWhatWasSeen_88 : fet (cdT 87) 88 = some (.iload_n 2, 0, 0) := by decide +kernel
theorem fX9_keepWhatWasSeen_89 : fet (cdT 87) 89 = some (.iand, 0, 0) := by decide +kernel
theorem fX9_keepWhatWasSeen_90 : fet (cdT 87) 90 = some (.iastore, 0, 0) := by decide +kernel
theorem fX9_keepWhatWasSeen_91 : fet (cdT 87) 91 = some (.aload_n 0, 0, 0) := by decide +kernel
theorem fX9_keepWhatWasSeen_92 : fet (cdT 87) 92 = some (.getfield 22, 9, 2) := by decide +kernel
theorem fX9_keepWhatWasSeen_95 : fet (cdT 87) 95 = some (.iload_n 1, 0, 0) := by decide +kernel
theorem fX9_keepWhatWasSeen_96 : fet (cdT 87) 96 = some (.aload_n 0, 0, 0) := by decide +kernel
theorem fX9_keepWhatWasSeen_97 : fet (cdT 87) 97 = some (.getfield 22, 9, 2) := by decide +kernel
theorem fX9_keepWhatWasSeen_100 : fet (cdT 87) 100 = some (.iload_n 1, 0, 0) := by decide +kernel
theorem fX9_keepWhatWasSeen_101 : fet (cdT 87) 101 = some (.invokevirtual 375, 30, 0) := by decide +kernel
theorem fX9_keepWhatWasSeen_104 : fet (cdT 87) 104 = some (.ifCond .eq 11, 0, 0) := by decide +kernel
theorem fX9_keepWhatWasSeen_107 : fet (cdT 87) 107 = some (.iload_n 3, 0, 0) := by decide +kernel
theorem fX9_keepWhatWasSeen_108 : fet (cdT 87) 108 = some (.ifCond .eq 7, 0, 0) := by decide +kernel
theorem fX9_keepWhatWasSeen_111 : fet (cdT 87) 111 = some (.iconst 1, 0, 0) := by decide +kernel
theorem fX9_keepWhatWasSeen_112 : fet (cdT 87) 112 = some (.goto 4, 0, 0) := by decide +kernel
theorem fX9_keepWhatWasSeen_115 : fet (cdT 87) 115 = some (.iconst 0, 0, 0) := by decide +kernel
theorem fX9_keepWhatWasSeen_116 : fet (cdT 87) 116 = some (.invokevirtual 378, 31, 0) := by decide +kernel
theorem fX9_keepWhatWasSeen_119 : fet (cdT 87) 119 = some (.iinc 1 1, 0, 0) := by decide +kernel
theorem fX9_keepWhatWasSeen_122 : fet (cdT 87) 122 = some (.goto (-120), 0, 0) := by decide +kernel
theorem fX9_keepWhatWasSeen_125 : fet (cdT 87) 125 = some (.return_, 0, 0) := by decide +kernel
theorem fX9_sameContacts_0 : fet (cdT 88) 0 = some (.iconst 0, 0, 0) := by decide +kernel
theorem fX9_sameContacts_1 : fet (cdT 88) 1 = some (.istore_n 2, 0, 0) := by decide +kernel
theorem fX9_sameContacts_2 : fet (cdT 88) 2 = some (.iconst 0, 0, 0) := by decide +kernel
theorem fX9_sameContacts_3 : fet (cdT 88) 3 = some (.istore_n 3, 0, 0) := by decide +kernel
theorem fX9_sameContacts_4 : fet (cdT 88) 4 = some (.iload_n 3, 0, 0) := by decide +kernel
theorem fX9_sameContacts_5 : fet (cdT 88) 5 = some (.iconst 4, 0, 0) := by decide +kernel
theorem fX9_sameContacts_6 : fet (cdT 88) 6 = some (.if_icmp .ge 24, 0, 0) := by decide +kernel
theorem fX9_sameContacts_9 : fet (cdT 88) 9 = some (.aload_n 0, 0, 0) := by decide +kernel
theorem fX9_sameContacts_10 : fet (cdT 88) 10 = some (.aload_n 1, 0, 0) := by decide +kernel
theorem fX9_sameContacts_11 : fet (cdT 88) 11 = some (.iload_n 3, 0, 0) := by decide +kernel
theorem fX9_sameContacts_12 : fet (cdT 88) 12 = some (.invokevirtual 382, 23, 0) := by decide +kernel
theorem fX9_sameContacts_15 : fet (cdT 88) 15 = some (.ifCond .eq 9, 0, 0) := by decide +kernel
theorem fX9_sameContacts_18 : fet (cdT 88) 18 = some (.iload_n 2, 0, 0) := by decide +kernel
theorem fX9_sameContacts_19 : fet (cdT 88) 19 = some (.iconst 1, 0, 0) := by decide +kernel
theorem fX9_sameContacts_20 : fet (cdT 88) 20 = some (.iload_n 3, 0, 0) := by decide +kernel
theorem fX9_sameContacts_21 : fet (cdT 88) 21 = some (.ishl, 0, 0) := by decide +kernel
theorem fX9_sameContacts_22 : fet (cdT 88) 22 = some (.ior, 0, 0) := by decide +kernel
theorem fX9_sameContacts_23 : fet (cdT 88) 23 = some (.istore_n 2, 0, 0) := by decide +kernel
theorem fX9_sameContacts_24 : fet (cdT 88) 24 = some (.iinc 3 1, 0, 0) := by decide +kernel
theorem fX9_sameContacts_27 : fet (cdT 88) 27 = some (.goto (-23), 0, 0) := by decide +kernel
theorem fX9_sameContacts_30 : fet (cdT 88) 30 = some (.iload_n 2, 0, 0) := by decide +kernel
theorem fX9_sameContacts_31 : fet (cdT 88) 31 = some (.ireturn, 0, 0) := by decide +kernel
theorem fX9_passOneUnit_0 : fet (cdT 89) 0 = some (.aload_n 0, 0, 0) := by decide +kernel
theorem fX9_passOneUnit_1 : fet (cdT 89) 1 = some (.dup, 0, 0) := by decide +kernel
theorem fX9_passOneUnit_2 : fet (cdT 89) 2 = some (.getfield 242, 9, 7) := by decide +kernel
theorem fX9_passOneUnit_5 : fet (cdT 89) 5 = some (.iconst 1, 0, 0) := by decide +kernel
theorem fX9_passOneUnit_6 : fet (cdT 89) 6 = some (.iadd, 0, 0) := by decide +kernel
theorem fX9_passOneUnit_7 : fet (cdT 89) 7 = some (.putfield 242, 9, 7) := by decide +kernel
theorem fX9_passOneUnit_10 : fet (cdT 89) 10 = some (.aload_n 0, 0, 0) := by decide +kernel
theorem fX9_passOneUnit_11 : fet (cdT 89) 11 = some (.getfield 22, 9, 2) := by decide +kernel
theorem fX9_passOneUnit_14 : fet (cdT 89) 14 = some (.getfield 249, 5, 9) := by decide +kernel
theorem fX9_passOneUnit_17 : fet (cdT 89) 17 = some (.invokevirtual 386, 9, 0) := by decide +kernel
theorem fX9_passOneUnit_20 : fet (cdT 89) 20 = some (.aload_n 0, 0, 0) := by decide +kernel
theorem fX9_passOneUnit_21 : fet (cdT 89) 21 = some (.getfield 32, 9, 4) := by decide +kernel
theorem fX9_passOneUnit_24 : fet (cdT 89) 24 = some (.getfield 279, 4, 4) := by decide +kernel
theorem fX9_passOneUnit_27 : fet (cdT 89) 27 = some (.istore_n 1, 0, 0) := by decide +kernel
theorem fX9_passOneUnit_28 : fet (cdT 89) 28 = some (.aload_n 0, 0, 0) := by decide +kernel
theorem fX9_passOneUnit_29 : fet (cdT 89) 29 = some (.getfield 32, 9, 4) := by decide +kernel
theorem fX9_passOneUnit_32 : fet (cdT 89) 32 = some (.iconst 0, 0, 0) := by decide +kernel
theorem fX9_passOneUnit_33 : fet (cdT 89) 33 = some (.putfield 279, 4, 4) := by decide +kernel
theorem fX9_passOneUnit_36 : fet (cdT 89) 36 = some (.aload_n 0, 0, 0) := by decide +kernel
theorem fX9_passOneUnit_37 : fet (cdT 89) 37 = some (.invokevirtual 389, 90, 0) := by decide +kernel
theorem fX9_passOneUnit_40 : fet (cdT 89) 40 = some (.istore_n 2, 0, 0) := by decide +kernel
theorem fX9_passOneUnit_41 : fet (cdT 89) 41 = some (.aload_n 0, 0, 0) := by decide +kernel
theorem fX9_passOneUnit_42 : fet (cdT 89) 42 = some (.getfield 291, 9, 12) := by decide +kernel
theorem fX9_passOneUnit_45 : fet (cdT 89) 45 = some (.ifCond .ne 28, 0, 0) := by decide +kernel
theorem fX9_passOneUnit_48 : fet (cdT 89) 48 = some (.iload_n 2, 0, 0) := by decide +kernel
theorem fX9_passOneUnit_49 : fet (cdT 89) 49 = some (.ifCond .ne 19, 0, 0) := by decide +kernel
theorem fX9_passOneUnit_52 : fet (cdT 89) 52 = some (.aload_n 0, 0, 0) := by decide +kernel
theorem fX9_passOneUnit_53 : fet (cdT 89) 53 = some (.getfield 48, 9, 6) := by decide +kernel
theorem fX9_passOneUnit_56 : fet (cdT 89) 56 = some (.iconst 1, 0, 0) := by decide +kernel
theorem fX9_passOneUnit_57 : fet (cdT 89) 57 = some (.aaload, 0, 0) := by decide +kernel
theorem fX9_passOneUnit_58 : fet (cdT 89) 58 = some (.aload_n 0, 0, 0) := by decide +kernel
theorem fX9_passOneUnit_59 : fet (cdT 89) 59 = some (.getfield 242, 9, 7) := by decide +kernel
theorem fX9_passOneUnit_62 : fet (cdT 89) 62 = some (.invokevirtual 392, 34, 0) := by decide +kernel
theorem fX9_passOneUnit_65 : fet (cdT 89) 65 = some (.ifCond .eq 8, 0, 0) := by decide +kernel
theorem fX9_passOneUnit_68 : fet (cdT 89) 68 = some (.aload_n 0, 0, 0) := by decide +kernel
theorem fX9_passOneUnit_69 : fet (cdT 89) 69 = some (.iconst 1, 0, 0) := by decide +kernel
theorem fX9_passOneUnit_70 : fet (cdT 89) 70 = some (.invokevirtual 395, 91, 0) := by decide +kernel
theorem fX9_passOneUnit_73 : fet (cdT 89) 73 = some (.aload_n 0, 0, 0) := by decide +kernel
theorem fX9_passOneUnit_74 : fet (cdT 89) 74 = some (.getfield 291, 9, 12) := by decide +kernel
theorem fX9_passOneUnit_77 : fet (cdT 89) 77 = some (.ifCond .ne 28, 0, 0) := by decide +kernel
theorem fX9_passOneUnit_80 : fet (cdT 89) 80 = some (.iload_n 1, 0, 0) := by decide +kernel
theorem fX9_passOneUnit_81 : fet (cdT 89) 81 = some (.ifCond .ne 19, 0, 0) := by decide +kernel
theorem fX9_passOneUnit_84 : fet (cdT 89) 84 = some (.aload_n 0, 0, 0) := by decide +kernel
theorem fX9_passOneUnit_85 : fet (cdT 89) 85 = some (.getfield 48, 9, 6) := by decide +kernel
theorem fX9_passOneUnit_88 : fet (cdT 89) 88 = some (.iconst 0, 0, 0) := by decide +kernel
theorem fX9_passOneUnit_89 : fet (cdT 89) 89 = some (.aaload, 0, 0) := by decide +kernel
theorem fX9_passOneUnit_90 : fet (cdT 89) 90 = some (.aload_n 0, 0, 0) := by decide +kernel
theorem fX9_passOneUnit_91 : fet (cdT 89) 91 = some (.getfield 242, 9, 7) := by decide +kernel
theorem fX9_passOneUnit_94 : fet (cdT 89) 94 = some (.invokevirtual 392, 34, 0) := by decide +kernel
theorem fX9_passOneUnit_97 : fet (cdT 89) 97 = some (.ifCond .eq 8, 0, 0) := by decide +kernel
theorem fX9_passOneUnit_100 : fet (cdT 89) 100 = some (.aload_n 0, 0, 0) := by decide +kernel
theorem fX9_passOneUnit_101 : fet (cdT 89) 101 = some (.iconst 0, 0, 0) := by decide +kernel
theorem fX9_passOneUnit_102 : fet (cdT 89) 102 = some (.invokevirtual 395, 91, 0) := by decide +kernel
theorem fX9_passOneUnit_105 : fet (cdT 89) 105 = some (.return_, 0, 0) := by decide +kernel
theorem fX9_lookAtStart_0 : fet (cdT 90) 0 = some (.iconst 0, 0, 0) := by decide +kernel
theorem fX9_lookAtStart_1 : fet (cdT 90) 1 = some (.istore_n 1, 0, 0) := by decide +kernel
theorem fX9_lookAtStart_2 : fet (cdT 90) 2 = some (.aload_n 0, 0, 0) := by decide +kernel
theorem fX9_lookAtStart_3 : fet (cdT 90) 3 = some (.getfield 52, 9, 10) := by decide +kernel
theorem fX9_lookAtStart_6 : fet (cdT 90) 6 = some (.iconst (-1), 0, 0) := by decide +kernel
theorem fX9_lookAtStart_7 : fet (cdT 90) 7 = some (.if_icmp .eq 58, 0, 0) := by decide +kernel
theorem fX9_lookAtStart_10 : fet (cdT 90) 10 = some (.aload_n 0, 0, 0) := by decide +kernel
theorem fX9_lookAtStart_11 : fet (cdT 90) 11 = some (.getfield 52, 9, 10) := by decide +kernel
theorem fX9_lookAtStart_14 : fet (cdT 90) 14 = some (.bipush 8, 0, 0) := by decide +kernel
theorem fX9_lookAtStart_16 : fet (cdT 90) 16 = some (.if_icmp .ge 21, 0, 0) := by decide +kernel
theorem fX9_lookAtStart_19 : fet (cdT 90) 19 = some (.aload_n 0, 0, 0) := by decide +kernel
theorem fX9_lookAtStart_20 : fet (cdT 90) 20 = some (.getfield 221, 9, 8) := by decide +kernel
theorem fX9_lookAtStart_23 : fet (cdT 90) 23 = some (.aload_n 0, 0, 0) := by decide +kernel
theorem fX9_lookAtStart_24 : fet (cdT 90) 24 = some (.getfield 52, 9, 10) := by decide +kernel
theorem fX9_lookAtStart_27 : fet (cdT 90) 27 = some (.invokestatic 217, 83, 1) := by decide +kernel
theorem fX9_lookAtStart_30 : fet (cdT 90) 30 = some (.ifCond .ne 7, 0, 0) := by decide +kernel
theorem fX9_lookAtStart_33 : fet (cdT 90) 33 = some (.iconst 1, 0, 0) := by decide +kernel
theorem fX9_lookAtStart_34 : fet (cdT 90) 34 = some (.goto 4, 0, 0) := by decide +kernel
theorem fX9_lookAtStart_37 : fet (cdT 90) 37 = some (.iconst 0, 0, 0) := by decide +kernel
theorem fX9_lookAtStart_38 : fet (cdT 90) 38 = some (.istore_n 2, 0, 0) := by decide +kernel
theorem fX9_lookAtStart_39 : fet (cdT 90) 39 = some (.iload_n 2, 0, 0) := by decide +kernel
theorem fX9_lookAtStart_40 : fet (cdT 90) 40 = some (.ifCond .eq 13, 0, 0) := by decide +kernel
theorem fX9_lookAtStart_43 : fet (cdT 90) 43 = some (.aload_n 0, 0, 0) := by decide +kernel
theorem fX9_lookAtStart_44 : fet (cdT 90) 44 = some (.getfield 39, 9, 5) := by decide +kernel
theorem fX9_lookAtStart_47 : fet (cdT 90) 47 = some (.getfield 214, 1, 0) := by decide +kernel
theorem fX9_lookAtStart_50 : fet (cdT 90) 50 = some (.goto 7, 0, 0) := by decide +kernel
theorem fX9_lookAtStart_53 : fet (cdT 90) 53 = some (.aload_n 0, 0, 0) := by decide +kernel
theorem fX9_lookAtStart_54 : fet (cdT 90) 54 = some (.invokevirtual 303, 86, 0) := by decide +kernel
theorem fX9_lookAtStart_57 : fet (cdT 90) 57 = some (.aload_n 0, 0, 0) := by decide +kernel
theorem fX9_lookAtStart_58 : fet (cdT 90) 58 = some (.getfield 52, 9, 10) := by decide +kernel
theorem fX9_lookAtStart_61 : fet (cdT 90) 61 = some (.invokestatic 217, 83, 1) := by decide +kernel
theorem fX9_lookAtStart_64 : fet (cdT 90) 64 = some (.istore_n 1, 0, 0) := by decide +kernel
theorem fX9_lookAtStart_65 : fet (cdT 90) 65 = some (.iload_n 1, 0, 0) := by decide +kernel
theorem fX9_lookAtStart_66 : fet (cdT 90) 66 = some (.ifCond .eq 14, 0, 0) := by decide +kernel
theorem fX9_lookAtStart_69 : fet (cdT 90) 69 = some (.aload_n 0, 0, 0) := by decide +kernel
theorem fX9_lookAtStart_70 : fet (cdT 90) 70 = some (.getfield 230, 9, 11) := by decide +kernel
theorem fX9_lookAtStart_73 : fet (cdT 90) 73 = some (.ifCond .ne 7, 0, 0) := by decide +kernel
theorem fX9_lookAtStart_76 : fet (cdT 90) 76 = some (.iconst 1, 0, 0) := by decide +kernel
theorem fX9_lookAtStart_77 : fet (cdT 90) 77 = some (.goto 4, 0, 0) := by decide +kernel
theorem fX9_lookAtStart_80 : fet (cdT 90) 80 = some (.iconst 0, 0, 0) := by decide +kernel
theorem fX9_lookAtStart_81 : fet (cdT 90) 81 = some (.istore_n 2, 0, 0) := by decide +kernel
theorem fX9_lookAtStart_82 : fet (cdT 90) 82 = some (.aload_n 0, 0, 0) := by decide +kernel
theorem fX9_lookAtStart_83 : fet (cdT 90) 83 = some (.iload_n 1, 0, 0) := by decide +kernel
theorem fX9_lookAtStart_84 : fet (cdT 90) 84 = some (.putfield 230, 9, 11) := by decide +kernel
theorem fX9_lookAtStart_87 : fet (cdT 90) 87 = some (.iload_n 2, 0, 0) := by decide +kernel
theorem fX9_lookAtStart_88 : fet (cdT 90) 88 = some (.ireturn, 0, 0) := by decide +kernel
theorem fX9_scanTask_0 : fet (cdT 91) 0 = some (.aload_n 0, 0, 0) := by decide +kernel
theorem fX9_scanTask_1 : fet (cdT 91) 1 = some (.getfield 22, 9, 2) := by decide +kernel
theorem fX9_scanTask_4 : fet (cdT 91) 4 = some (.aload_n 0, 0, 0) := by decide +kernel
theorem fX9_scanTask_5 : fet (cdT 91) 5 = some (.getfield 39, 9, 5) := by decide +kernel
theorem fX9_scanTask_8 : fet (cdT 91) 8 = some (.aload_n 0, 0, 0) := by decide +kernel
theorem fX9_scanTask_9 : fet (cdT 91) 9 = some (.getfield 22, 9, 2) := by decide +kernel
theorem fX9_scanTask_12 : fet (cdT 91) 12 = some (.getfield 362, 5, 0) := by decide +kernel
theorem fX9_scanTask_15 : fet (cdT 91) 15 = some (.invokevirtual 398, 13, 0) := by decide +kernel
theorem fX9_scanTask_18 : fet (cdT 91) 18 = some (.putfield 362, 5, 0) := by decide +kernel
theorem fX9_scanTask_21 : fet (cdT 91) 21 = some (.iload_n 1, 0, 0) := by decide +kernel
theorem fX9_scanTask_22 : fet (cdT 91) 22 = some (.ifCond .ne 24, 0, 0) := by decide +kernel
theorem fX9_scanTask_25 : fet (cdT 91) 25 = some (.aload_n 0, 0, 0) := by decide +kernel
theorem fX9_scanTask_26 : fet (cdT 91) 26 = some (.getfield 22, 9, 2) := by decide +kernel
theorem fX9_scanTask_29 : fet (cdT 91) 29 = some (.aload_n 0, 0, 0) := by decide +kernel
theorem fX9_scanTask_30 : fet (cdT 91) 30 = some (.getfield 39, 9, 5) := by decide +kernel
theorem fX9_scanTask_33 : fet (cdT 91) 33 = some (.aload_n 0, 0, 0) := by decide +kernel
theorem fX9_scanTask_34 : fet (cdT 91) 34 = some (.getfield 22, 9, 2) := by decide +kernel
theorem fX9_scanTask_37 : fet (cdT 91) 37 = some (.getfield 362, 5, 0) := by decide +kernel
theorem fX9_scanTask_40 : fet (cdT 91) 40 = some (.invokevirtual 401, 14, 0) := by decide +kernel
theorem fX9_scanTask_43 : fet (cdT 91) 43 = some (.putfield 362, 5, 0) := by decide +kernel
theorem fX9_scanTask_46 : fet (cdT 91) 46 = some (.aload_n 0, 0, 0) := by decide +kernel
theorem fX9_scanTask_47 : fet (cdT 91) 47 = some (.getfield 10, 9, 0) := by decide +kernel
theorem fX9_scanTask_50 : fet (cdT 91) 50 = some (.getfield 79, 2, 0) := by decide +kernel
theorem fX9_scanTask_53 : fet (cdT 91) 53 = some (.aload_n 0, 0, 0) := by decide +kernel
theorem fX9_scanTask_54 : fet (cdT 91) 54 = some (.getfield 48, 9, 6) := by decide +kernel
theorem fX9_scanTask_57 : fet (cdT 91) 57 = some (.iload_n 1, 0, 0) := by decide +kernel
theorem fX9_scanTask_58 : fet (cdT 91) 58 = some (.aaload, 0, 0) := by decide +kernel
theorem fX9_scanTask_59 : fet (cdT 91) 59 = some (.getfield 233, 7, 1) := by decide +kernel
theorem fX9_scanTask_62 : fet (cdT 91) 62 = some (.if_icmp .le 14, 0, 0) := by decide +kernel
theorem fX9_scanTask_65 : fet (cdT 91) 65 = some (.aload_n 0, 0, 0) := by decide +kernel
theorem fX9_scanTask_66 : fet (cdT 91) 66 = some (.getfield 26, 9, 3) := by decide +kernel
theorem fX9_scanTask_69 : fet (cdT 91) 69 = some (.aload_n 0, 0, 0) := by decide +kernel
theorem fX9_scanTask_70 : fet (cdT 91) 70 = some (.getfield 22, 9, 2) := by decide +kernel
theorem fX9_scanTask_73 : fet (cdT 91) 73 = some (.invokevirtual 277, 29, 0) := by decide +kernel
theorem fX9_scanTask_76 : fet (cdT 91) 76 = some (.aload_n 0, 0, 0) := by decide +kernel
theorem fX9_scanTask_77 : fet (cdT 91) 77 = some (.getfield 242, 9, 7) := by decide +kernel
theorem fX9_scanTask_80 : fet (cdT 91) 80 = some (.aload_n 0, 0, 0) := by decide +kernel
theorem fX9_scanTask_81 : fet (cdT 91) 81 = some (.getfield 22, 9, 2) := by decide +kernel
theorem fX9_scanTask_84 : fet (cdT 91) 84 = some (.getfield 404, 5, 8) := by decide +kernel
theorem fX9_scanTask_87 : fet (cdT 91) 87 = some (.iload_n 1, 0, 0) := by decide +kernel
theorem fX9_scanTask_88 : fet (cdT 91) 88 = some (.iaload, 0, 0) := by decide +kernel
theorem fX9_scanTask_89 : fet (cdT 91) 89 = some (.isub, 0, 0) := by decide +kernel
theorem fX9_scanTask_90 : fet (cdT 91) 90 = some (.istore_n 2, 0, 0) := by decide +kernel
theorem fX9_scanTask_91 : fet (cdT 91) 91 = some (.aload_n 0, 0, 0) := by decide +kernel
theorem fX9_scanTask_92 : fet (cdT 91) 92 = some (.iload_n 1, 0, 0) := by decide +kernel
theorem fX9_scanTask_93 : fet (cdT 91) 93 = some (.iload_n 2, 0, 0) := by decide +kernel
theorem fX9_scanTask_94 : fet (cdT 91) 94 = some (.invokevirtual 407, 94, 0) := by decide +kernel
theorem fX9_scanTask_97 : fet (cdT 91) 97 = some (.istore_n 3, 0, 0) := by decide +kernel
theorem fX9_scanTask_98 : fet (cdT 91) 98 = some (.iload_n 3, 0, 0) := by decide +kernel
theorem fX9_scanTask_99 : fet (cdT 91) 99 = some (.aload_n 0, 0, 0) := by decide +kernel
theorem fX9_scanTask_100 : fet (cdT 91) 100 = some (.getfield 48, 9, 6) := by decide +kernel
theorem fX9_scanTask_103 : fet (cdT 91) 103 = some (.iload_n 1, 0, 0) := by decide +kernel
theorem fX9_scanTask_104 : fet (cdT 91) 104 = some (.aaload, 0, 0) := by decide +kernel
theorem fX9_scanTask_105 : fet (cdT 91) 105 = some (.getfield 233, 7, 1) := by decide +kernel
theorem fX9_scanTask_108 : fet (cdT 91) 108 = some (.if_icmp .le 20, 0, 0) := by decide +kernel
theorem fX9_scanTask_111 : fet (cdT 91) 111 = some (.aload_n 0, 0, 0) := by decide +kernel
theorem fX9_scanTask_112 : fet (cdT 91) 112 = some (.getfield 22, 9, 2) := by decide +kernel
theorem fX9_scanTask_115 : fet (cdT 91) 115 = some (.aload_n 0, 0, 0) := by decide +kernel
theorem fX9_scanTask_116 : fet (cdT 91) 116 = some (.getfield 26, 9, 3) := by decide +kernel
theorem fX9_scanTask_119 : fet (cdT 91) 119 = some (.invokevirtual 277, 29, 0) := by decide +kernel
theorem fX9_scanTask_122 : fet (cdT 91) 122 = some (.aload_n 0, 0, 0) := by decide +kernel
theorem fX9_scanTask_123 : fet (cdT 91) 123 = some (.iload_n 1, 0, 0) := by decide +kernel
theorem fX9_scanTask_124 : fet (cdT 91) 124 = some (.invokevirtual 411, 92, 0) := by decide +kernel
theorem fX9_scanTask_127 : fet (cdT 91) 127 = some (.return_, 0, 0) := by decide +kernel
theorem fX9_scanTask_128 : fet (cdT 91) 128 = some (.iload_n 1, 0, 0) := by decide +kernel
theorem fX9_scanTask_129 : fet (cdT 91) 129 = some (.ifCond .ne 8, 0, 0) := by decide +kernel
theorem fX9_scanTask_132 : fet (cdT 91) 132 = some (.aload_n 0, 0, 0) := by decide +kernel
theorem fX9_scanTask_133 : fet (cdT 91) 133 = some (.iload_n 2, 0, 0) := by decide +kernel
theorem fX9_scanTask_134 : fet (cdT 91) 134 = some (.invokevirtual 414, 100, 0) := by decide +kernel
theorem fX9_scanTask_137 : fet (cdT 91) 137 = some (.aload_n 0, 0, 0) := by decide +kernel
theorem fX9_scanTask_138 : fet (cdT 91) 138 = some (.getfield 39, 9, 5) := by decide +kernel
theorem fX9_scanTask_141 : fet (cdT 91) 141 = some (.aload_n 0, 0, 0) := by decide +kernel
theorem fX9_scanTask_142 : fet (cdT 91) 142 = some (.invokevirtual 303, 86, 0) := by decide +kernel
theorem fX9_scanTask_145 : fet (cdT 91) 145 = some (.invokestatic 297, 85, 1) := by decide +kernel
theorem fX9_scanTask_148 : fet (cdT 91) 148 = some (.invokevirtual 300, 12, 0) := by decide +kernel
theorem fX9_scanTask_151 : fet (cdT 91) 151 = some (.aload_n 0, 0, 0) := by decide +kernel
theorem fX9_scanTask_152 : fet (cdT 91) 152 = some (.getfield 22, 9, 2) := by decide +kernel
theorem fX9_scanTask_155 : fet (cdT 91) 155 = some (.getfield 404, 5, 8) := by decide +kernel
theorem fX9_scanTask_158 : fet (cdT 91) 158 = some (.iload_n 1, 0, 0) := by decide +kernel
theorem fX9_scanTask_159 : fet (cdT 91) 159 = some (.aload_n 0, 0, 0) := by decide +kernel
theorem fX9_scanTask_160 : fet (cdT 91) 160 = some (.getfield 242, 9, 7) := by decide +kernel
theorem fX9_scanTask_163 : fet (cdT 91) 163 = some (.iastore, 0, 0) := by decide +kernel
theorem fX9_scanTask_164 : fet (cdT 91) 164 = some (.aload_n 0, 0, 0) := by decide +kernel
theorem fX9_scanTask_165 : fet (cdT 91) 165 = some (.getfield 48, 9, 6) := by decide +kernel
theorem fX9_scanTask_168 : fet (cdT 91) 168 = some (.iload_n 1, 0, 0) := by decide +kernel
theorem fX9_scanTask_169 : fet (cdT 91) 169 = some (.aaload, 0, 0) := by decide +kernel
theorem fX9_scanTask_170 : fet (cdT 91) 170 = some (.dup, 0, 0) := by decide +kernel
theorem fX9_scanTask_171 : fet (cdT 91) 171 = some (.getfield 334, 7, 2) := by decide +kernel
theorem fX9_scanTask_174 : fet (cdT 91) 174 = some (.iconst 1, 0, 0) := by decide +kernel
theorem fX9_scanTask_175 : fet (cdT 91) 175 = some (.iadd, 0, 0) := by decide +kernel
theorem fX9_scanTask_176 : fet (cdT 91) 176 = some (.putfield 334, 7, 2) := by decide +kernel
theorem fX9_scanTask_179 : fet (cdT 91) 179 = some (.aload_n 0, 0, 0) := by decide +kernel
theorem fX9_scanTask_180 : fet (cdT 91) 180 = some (.dup, 0, 0) := by decide +kernel
theorem fX9_scanTask_181 : fet (cdT 91) 181 = some (.getfield 348, 9, 13) := by decide +kernel
theorem fX9_scanTask_184 : fet (cdT 91) 184 = some (.iload_n 3, 0, 0) := by decide +kernel
theorem fX9_scanTask_185 : fet (cdT 91) 185 = some (.i2l, 0, 0) := by decide +kernel
theorem fX9_scanTask_186 : fet (cdT 91) 186 = some (.ladd, 0, 0) := by decide +kernel
theorem fX9_scanTask_187 : fet (cdT 91) 187 = some (.putfield 348, 9, 13) := by decide +kernel
theorem fX9_scanTask_190 : fet (cdT 91) 190 = some (.iload_n 1, 0, 0) := by decide +kernel
theorem fX9_scanTask_191 : fet (cdT 91) 191 = some (.ifCond .ne 29, 0, 0) := by decide +kernel
theorem fX9_scanTask_194 : fet (cdT 91) 194 = some (.aload_n 0, 0, 0) := by decide +kernel
theorem fX9_scanTask_195 : fet (cdT 91) 195 = some (.getfield 22, 9, 2) := by decide +kernel
theorem fX9_scanTask_198 : fet (cdT 91) 198 = some (.iconst 0, 0, 0) := by decide +kernel
theorem fX9_scanTask_199 : fet (cdT 91) 199 = some (.putfield 417, 5, 2) := by decide +kernel
theorem fX9_scanTask_202 : fet (cdT 91) 202 = some (.aload_n 0, 0, 0) := by decide +kernel
theorem fX9_scanTask_203 : fet (cdT 91) 203 = some (.getfield 32, 9, 4) := by decide +kernel
theorem fX9_scanTask_206 : fet (cdT 91) 206 = some (.invokevirtual 420, 27, 0) := by decide +kernel
theorem fX9_scanTask_209 : fet (cdT 91) 209 = some (.aload_n 0, 0, 0) := by decide +kernel
theorem fX9_scanTask_210 : fet (cdT 91) 210 = some (.getfield 32, 9, 4) := by decide +kernel
theorem fX9_scanTask_213 : fet (cdT 91) 213 = some (.aload_n 0, 0, 0) := by decide +kernel
theorem fX9_scanTask_214 : fet (cdT 91) 214 = some (.getfield 22, 9, 2) := by decide +kernel
theorem fX9_scanTask_217 : fet (cdT 91) 217 = some (.invokevirtual 207, 26, 0) := by decide +kernel
theorem fX9_scanTask_220 : fet (cdT 91) 220 = some (.return_, 0, 0) := by decide +kernel
theorem fX9_countMissed_0 : fet (cdT 92) 0 = some (.aload_n 0, 0, 0) := by decide +kernel
theorem fX9_countMissed_1 : fet (cdT 92) 1 = some (.getfield 48, 9, 6) := by decide +kernel
theorem fX9_countMissed_4 : fet (cdT 92) 4 = some (.iload_n 1, 0, 0) := by decide +kernel
theorem fX9_countMissed_5 : fet (cdT 92) 5 = some (.aaload, 0, 0) := by decide +kernel
theorem fX9_countMissed_6 : fet (cdT 92) 6 = some (.dup, 0, 0) := by decide +kernel
theorem fX9_countMissed_7 : fet (cdT 92) 7 = some (.getfield 337, 7, 3) := by decide +kernel
theorem fX9_countMissed_10 : fet (cdT 92) 10 = some (.iconst 1, 0, 0) := by decide +kernel
theorem fX9_countMissed_11 : fet (cdT 92) 11 = some (.iadd, 0, 0) := by decide +kernel
theorem fX9_countMissed_12 : fet (cdT 92) 12 = some (.putfield 337, 7, 3) := by decide +kernel
theorem fX9_countMissed_15 : fet (cdT 92) 15 = some (.iload_n 1, 0, 0) := by decide +kernel
theorem fX9_countMissed_16 : fet (cdT 92) 16 = some (.ifCond .ne 31, 0, 0) := by decide +kernel
theorem fX9_countMissed_19 : fet (cdT 92) 19 = some (.aload_n 0, 0, 0) := by decide +kernel
theorem fX9_countMissed_20 : fet (cdT 92) 20 = some (.getfield 22, 9, 2) := by decide +kernel
theorem fX9_countMissed_23 : fet (cdT 92) 23 = some (.dup, 0, 0) := by decide +kernel
theorem fX9_countMissed_24 : fet (cdT 92) 24 = some (.getfield 417, 5, 2) := by decide +kernel
theorem fX9_countMissed_27 : fet (cdT 92) 27 = some (.iconst 1, 0, 0) := by decide +kernel
theorem fX9_countMissed_28 : fet (cdT 92) 28 = some (.iadd, 0, 0) := by decide +kernel
theorem fX9_countMissed_29 : fet (cdT 92) 29 = some (.putfield 417, 5, 2) := by decide +kernel
theorem fX9_countMissed_32 : fet (cdT 92) 32 = some (.aload_n 0, 0, 0) := by decide +kernel
theorem fX9_countMissed_33 : fet (cdT 92) 33 = some (.getfield 22, 9, 2) := by decide +kernel
theorem fX9_countMissed_36 : fet (cdT 92) 36 = some (.getfield 417, 5, 2) := by decide +kernel
theorem fX9_countMissed_39 : fet (cdT 92) 39 = some (.iconst 3, 0, 0) := by decide +kernel
theorem fX9_countMissed_40 : fet (cdT 92) 40 = some (.if_icmp .lt 7, 0, 0) := by decide +kernel
theorem fX9_countMissed_43 : fet (cdT 92) 43 = some (.aload_n 0, 0, 0) := by decide +kernel
theorem fX9_countMissed_44 : fet (cdT 92) 44 = some (.invokevirtual 282, 93, 0) := by decide +kernel
theorem fX9_countMissed_47 : fet (cdT 92) 47 = some (.return_, 0, 0) := by decide +kernel
theorem fX9_stopAll_0 : fet (cdT 93) 0 = some (.aload_n 0, 0, 0) := by decide +kernel
theorem fX9_stopAll_1 : fet (cdT 93) 1 = some (.getfield 39, 9, 5) := by decide +kernel
theorem fX9_stopAll_4 : fet (cdT 93) 4 = some (.iconst 0, 0, 0) := by decide +kernel
theorem fX9_stopAll_5 : fet (cdT 93) 5 = some (.invokevirtual 300, 12, 0) := by decide +kernel
theorem fX9_stopAll_8 : fet (cdT 93) 8 = some (.aload_n 0, 0, 0) := by decide +kernel
theorem fX9_stopAll_9 : fet (cdT 93) 9 = some (.iconst 1, 0, 0) := by decide +kernel
theorem fX9_stopAll_10 : fet (cdT 93) 10 = some (.putfield 291, 9, 12) := by decide +kernel
theorem fX9_stopAll_13 : fet (cdT 93) 13 = some (.return_, 0, 0) := by decide +kernel
theorem fX9_doRungs_0 : fet (cdT 94) 0 = some (.iconst 0, 0, 0) := by decide +kernel
theorem fX9_doRungs_1 : fet (cdT 94) 1 = some (.istore_n 3, 0, 0) := by decide +kernel
theorem fX9_doRungs_2 : fet (cdT 94) 2 = some (.iconst 0, 0, 0) := by decide +kernel
theorem fX9_doRungs_3 : fet (cdT 94) 3 = some (.istore 4, 0, 0) := by decide +kernel
theorem fX9_doRungs_5 : fet (cdT 94) 5 = some (.iconst 0, 0, 0) := by decide +kernel
theorem fX9_doRungs_6 : fet (cdT 94) 6 = some (.istore 5, 0, 0) := by decide +kernel
theorem fX9_doRungs_8 : fet (cdT 94) 8 = some (.iload 5, 0, 0) := by decide +kernel
theorem fX9_doRungs_10 : fet (cdT 94) 10 = some (.aload_n 0, 0, 0) := by decide +kernel
theorem fX9_doRungs_11 : fet (cdT 94) 11 = some (.getfield 10, 9, 0) := by decide +kernel
theorem fX9_doRungs_14 : fet (cdT 94) 14 = some (.getfield 79, 2, 0) := by decide +kernel
theorem fX9_doRungs_17 : fet (cdT 94) 17 = some (.if_icmp .ge 98, 0, 0) := by decide +kernel
theorem fX9_doRungs_20 : fet (cdT 94) 20 = some (.aload_n 0, 0, 0) := by decide +kernel
theorem fX9_doRungs_21 : fet (cdT 94) 21 = some (.getfield 10, 9, 0) := by decide +kernel
theorem fX9_doRungs_24 : fet (cdT 94) 24 = some (.getfield 85, 2, 3) := by decide +kernel
theorem fX9_doRungs_27 : fet (cdT 94) 27 = some (.iload 5, 0, 0) := by decide +kernel
theorem fX9_doRungs_29 : fet (cdT 94) 29 = some (.aaload, 0, 0) := by decide +kernel
theorem fX9_doRungs_30 : fet (cdT 94) 30 = some (.astore 6, 0, 0) := by decide +kernel
theorem fX9_doRungs_32 : fet (cdT 94) 32 = some (.aload 6, 0, 0) := by decide +kernel
theorem fX9_doRungs_34 : fet (cdT 94) 34 = some (.getfield 89, 3, 0) := by decide +kernel
theorem fX9_doRungs_37 : fet (cdT 94) 37 = some (.iload_n 1, 0, 0) := by decide +kernel
theorem fX9_doRungs_38 : fet (cdT 94) 38 = some (.if_icmp .ne 71, 0, 0) := by decide +kernel
theorem fX9_doRungs_41 : fet (cdT 94) 41 = some (.iload 5, 0, 0) := by decide +kernel
theorem fX9_doRungs_43 : fet (cdT 94) 43 = some (.iload 4, 0, 0) := by decide +kernel
theorem fX9_doRungs_45 : fet (cdT 94) 45 = some (.if_icmp .lt 64, 0, 0) := by decide +kernel
theorem fX9_doRungs_48 : fet (cdT 94) 48 = some (.iinc 3 1, 0, 0) := by decide +kernel
theorem fX9_doRungs_51 : fet (cdT 94) 51 = some (.iload_n 3, 0, 0) := by decide +kernel
theorem fX9_doRungs_52 : fet (cdT 94) 52 = some (.aload_n 0, 0, 0) := by decide +kernel
theorem fX9_doRungs_53 : fet (cdT 94) 53 = some (.getfield 48, 9, 6) := by decide +kernel
theorem fX9_doRungs_56 : fet (cdT 94) 56 = some (.iload_n 1, 0, 0) := by decide +kernel
theorem fX9_doRungs_57 : fet (cdT 94) 57 = some (.aaload, 0, 0) := by decide +kernel
theorem fX9_doRungs_58 : fet (cdT 94) 58 = some (.getfield 233, 7, 1) := by decide +kernel
theorem fX9_doRungs_61 : fet (cdT 94) 61 = some (.if_icmp .le 5, 0, 0) := by decide +kernel
theorem fX9_doRungs_64 : fet (cdT 94) 64 = some (.iload_n 3, 0, 0) := by decide +kernel
theorem fX9_doRungs_65 : fet (cdT 94) 65 = some (.ireturn, 0, 0) := by decide +kernel
theorem fX9_doRungs_66 : fet (cdT 94) 66 = some (.aload_n 0, 0, 0) := by decide +kernel
theorem fX9_doRungs_67 : fet (cdT 94) 67 = some (.iload 5, 0, 0) := by decide +kernel
theorem fX9_doRungs_69 : fet (cdT 94) 69 = some (.aload 6, 0, 0) := by decide +kernel
theorem fX9_doRungs_71 : fet (cdT 94) 71 = some (.invokevirtual 423, 95, 0) := by decide +kernel
theorem fX9_doRungs_74 : fet (cdT 94) 74 = some (.istore 7, 0, 0) := by decide +kernel
theorem fX9_doRungs_76 : fet (cdT 94) 76 = some (.aload_n 0, 0, 0) := by decide +kernel
theorem fX9_doRungs_77 : fet (cdT 94) 77 = some (.iload 5, 0, 0) := by decide +kernel
theorem fX9_doRungs_79 : fet (cdT 94) 79 = some (.aload 6, 0, 0) := by decide +kernel
theorem fX9_doRungs_81 : fet (cdT 94) 81 = some (.iload 7, 0, 0) := by decide +kernel
theorem fX9_doRungs_83 : fet (cdT 94) 83 = some (.iload_n 2, 0, 0) := by decide +kernel
theorem fX9_doRungs_84 : fet (cdT 94) 84 = some (.invokevirtual 427, 97, 0) := by decide +kernel
theorem fX9_doRungs_87 : fet (cdT 94) 87 = some (.aload 6, 0, 0) := by decide +kernel
theorem fX9_doRungs_89 : fet (cdT 94) 89 = some (.getfield 94, 3, 1) := by decide +kernel
theorem fX9_doRungs_92 : fet (cdT 94) 92 = some (.bipush 74, 0, 0) := by decide +kernel
theorem fX9_doRungs_94 : fet (cdT 94) 94 = some (.if_icmp .ne 15, 0, 0) := by decide +kernel
theorem fX9_doRungs_97 : fet (cdT 94) 97 = some (.iload 7, 0, 0) := by decide +kernel
theorem fX9_doRungs_99 : fet (cdT 94) 99 = some (.ifCond .eq 10, 0, 0) := by decide +kernel
theorem fX9_doRungs_102 : fet (cdT 94) 102 = some (.aload 6, 0, 0) := by decide +kernel
theorem fX9_doRungs_104 : fet (cdT 94) 104 = some (.getfield 101, 3, 3) := by decide +kernel
theorem fX9_doRungs_107 : fet (cdT 94) 107 = some (.istore 4, 0, 0) := by decide +kernel
theorem fX9_doRungs_109 : fet (cdT 94) 109 = some (.iinc 5 1, 0, 0) := by decide +kernel
theorem fX9_doRungs_112 : fet (cdT 94) 112 = some (.goto (-104), 0, 0) := by decide +kernel
theorem fX9_doRungs_115 : fet (cdT 94) 115 = some (.iload_n 3, 0, 0) := by decide +kernel
theorem fX9_doRungs_116 : fet (cdT 94) 116 = some (.ireturn, 0, 0) := by decide +kernel
theorem fX9_lookAtContacts_0 : fet (cdT 95) 0 = some (.aload_n 0, 0, 0) := by decide +kernel
theorem fX9_lookAtContacts_1 : fet (cdT 95) 1 = some (.invokevirtual 303, 86, 0) := by decide +kernel
theorem fX9_lookAtContacts_4 : fet (cdT 95) 4 = some (.istore_n 3, 0, 0) := by decide +kernel
theorem fX9_lookAtContacts_5 : fet (cdT 95) 5 = some (.iconst 1, 0, 0) := by decide +kernel
theorem fX9_lookAtContacts_6 : fet (cdT 95) 6 = some (.istore 4, 0, 0) := by decide +kernel
theorem fX9_lookAtContacts_8 : fet (cdT 95) 8 = some (.iconst 0, 0, 0) := by decide +kernel
theorem fX9_lookAtContacts_9 : fet (cdT 95) 9 = some (.istore 5, 0, 0) := by decide +kernel
theorem fX9_lookAtContacts_11 : fet (cdT 95) 11 = some (.iconst 0, 0, 0) := by decide +kernel
theorem fX9_lookAtContacts_12 : fet (cdT 95) 12 = some (.istore 6, 0, 0) := by decide +kernel
theorem fX9_lookAtContacts_14 : fet (cdT 95) 14 = some (.iload 6, 0, 0) := by decide +kernel
theorem fX9_lookAtContacts_16 : fet (cdT 95) 16 = some (.aload_n 2, 0, 0) := by decide +kernel
theorem fX9_lookAtContacts_17 : fet (cdT 95) 17 = some (.getfield 104, 3, 4) := by decide +kernel
theorem fX9_lookAtContacts_20 : fet (cdT 95) 20 = some (.if_icmp .ge 81, 0, 0) := by decide +kernel
theorem fX9_lookAtContacts_23 : fet (cdT 95) 23 = some (.iload_n 3, 0, 0) := by decide +kernel
theorem fX9_lookAtContacts_24 : fet (cdT 95) 24 = some (.aload_n 2, 0, 0) := by decide +kernel
theorem fX9_lookAtContacts_25 : fet (cdT 95) 25 = some (.getfield 122, 3, 6) := by decide +kernel
theorem fX9_lookAtContacts_28 : fet (cdT 95) 28 = some (.iload 6, 0, 0) := by decide +kernel
theorem fX9_lookAtContacts_30 : fet (cdT 95) 30 = some (.iaload, 0, 0) := by decide +kernel
theorem fX9_lookAtContacts_31 : fet (cdT 95) 31 = some (.invokestatic 217, 83, 1) := by decide +kernel
theorem fX9_lookAtContacts_34 : fet (cdT 95) 34 = some (.istore 7, 0, 0) := by decide +kernel
theorem fX9_lookAtContacts_36 : fet (cdT 95) 36 = some (.aload_n 0, 0, 0) := by decide +kernel
theorem fX9_lookAtContacts_37 : fet (cdT 95) 37 = some (.getfield 22, 9, 2) := by decide +kernel
theorem fX9_lookAtContacts_40 : fet (cdT 95) 40 = some (.getfield 372, 5, 7) := by decide +kernel
theorem fX9_lookAtContacts_43 : fet (cdT 95) 43 = some (.iload_n 1, 0, 0) := by decide +kernel
theorem fX9_lookAtContacts_44 : fet (cdT 95) 44 = some (.iaload, 0, 0) := by decide +kernel
theorem fX9_lookAtContacts_45 : fet (cdT 95) 45 = some (.iload 6, 0, 0) := by decide +kernel
theorem fX9_lookAtContacts_47 : fet (cdT 95) 47 = some (.invokestatic 217, 83, 1) := by decide +kernel
theorem fX9_lookAtContacts_50 : fet (cdT 95) 50 = some (.istore 8, 0, 0) := by decide +kernel
theorem fX9_lookAtContacts_52 : fet (cdT 95) 52 = some (.aload_n 2, 0, 0) := by decide +kernel
theorem fX9_lookAtContacts_53 : fet (cdT 95) 53 = some (.getfield 118, 3, 5) := by decide +kernel
theorem fX9_lookAtContacts_56 : fet (cdT 95) 56 = some (.iload 6, 0, 0) := by decide +kernel
theorem fX9_lookAtContacts_58 : fet (cdT 95) 58 = some (.caload, 0, 0) := by decide +kernel
theorem fX9_lookAtContacts_59 : fet (cdT 95) 59 = some (.iload 7, 0, 0) := by decide +kernel
theorem fX9_lookAtContacts_61 : fet (cdT 95) 61 = some (.iload 8, 0, 0) := by decide +kernel
theorem fX9_lookAtContacts_63 : fet (cdT 95) 63 = some (.invokestatic 431, 96, 1) := by decide +kernel
theorem fX9_lookAtContacts_66 : fet (cdT 95) 66 = some (.ifCond .eq 12, 0, 0) := by decide +kernel
theorem fX9_lookAtContacts_69 : fet (cdT 95) 69 = some (.iload 4, 0, 0) := by decide +kernel
theorem fX9_lookAtContacts_71 : fet (cdT 95) 71 = some (.ifCond .eq 7, 0, 0) := by decide +kernel
theorem fX9_lookAtContacts_74 : fet (cdT 95) 74 = some (.iconst 1, 0, 0) := by decide +kernel
theorem fX9_lookAtContacts_75 : fet (cdT 95) 75 = some (.goto 4, 0, 0) := by decide +kernel
theorem fX9_lookAtContacts_78 : fet (cdT 95) 78 = some (.iconst 0, 0, 0) := by decide +kernel
theorem fX9_lookAtContacts_79 : fet (cdT 95) 79 = some (.istore 4, 0, 0) := by decide +kernel
theorem fX9_lookAtContacts_81 : fet (cdT 95) 81 = some (.iload 7, 0, 0) := by decide +kernel
theorem fX9_lookAtContacts_83 : fet (cdT 95) 83 = some (.ifCond .eq 12, 0, 0) := by decide +kernel
theorem fX9_lookAtContacts_86 : fet (cdT 95) 86 = some (.iload 5, 0, 0) := by decide +kernel
theorem fX9_lookAtContacts_88 : fet (cdT 95) 88 = some (.iconst 1, 0, 0) := by decide +kernel
theorem fX9_lookAtContacts_89 : fet (cdT 95) 89 = some (.iload 6, 0, 0) := by decide +kernel
theorem fX9_lookAtContacts_91 : fet (cdT 95) 91 = some (.ishl, 0, 0) := by decide +kernel
theorem fX9_lookAtContacts_92 : fet (cdT 95) 92 = some (.ior, 0, 0) := by decide +kernel
theorem fX9_lookAtContacts_93 : fet (cdT 95) 93 = some (.istore 5, 0, 0) := by decide +kernel
theorem fX9_lookAtContacts_95 : fet (cdT 95) 95 = some (.iinc 6 1, 0, 0) := by decide +kernel
theorem fX9_lookAtContacts_98 : fet (cdT 95) 98 = some (.goto (-84), 0, 0) := by decide +kernel
theorem fX9_lookAtContacts_101 : fet (cdT 95) 101 = some (.aload_n 0, 0, 0) := by decide +kernel
theorem fX9_lookAtContacts_102 : fet (cdT 95) 102 = some (.getfield 22, 9, 2) := by decide +kernel
theorem fX9_lookAtContacts_105 : fet (cdT 95) 105 = some (.getfield 372, 5, 7) := by decide +kernel
theorem fX9_lookAtContacts_108 : fet (cdT 95) 108 = some (.iload_n 1, 0, 0) := by decide +kernel
theorem fX9_lookAtContacts_109 : fet (cdT 95) 109 = some (.iload 5, 0, 0) := by decide +kernel
theorem fX9_lookAtContacts_111 : fet (cdT 95) 111 = some (.iastore, 0, 0) := by decide +kernel
theorem fX9_lookAtContacts_112 : fet (cdT 95) 112 = some (.iload 4, 0, 0) := by decide +kernel
theorem fX9_lookAtContacts_114 : fet (cdT 95) 114 = some (.ireturn, 0, 0) := by decide +kernel
theorem fX9_doesHold_0 : fet (cdT 96) 0 = some (.iload_n 0, 0, 0) := by decide +kernel
theorem fX9_doesHold_1 : fet (cdT 96) 1 = some (.lookupswitch 61 #[(48, 37), (49, 35), (117, 47)], 0, 0) := by decide +kernel
theorem fX9_doesHold_36 : fet (cdT 96) 36 = some (.iload_n 1, 0, 0) := by decide +kernel
theorem fX9_doesHold_37 : fet (cdT 96) 37 = some (.ireturn, 0, 0) := by decide +kernel
theorem fX9_doesHold_38 : fet (cdT 96) 38 = some (.iload_n 1, 0, 0) := by decide +kernel
theorem fX9_doesHold_39 : fet (cdT 96) 39 = some (.ifCond .ne 7, 0, 0) := by decide +kernel
theorem fX9_doesHold_42 : fet (cdT 96) 42 = some (.iconst 1, 0, 0) := by decide +kernel
theorem fX9_doesHold_43 : fet (cdT 96) 43 = some (.goto 4, 0, 0) := by decide +kernel
theorem fX9_doesHold_46 : fet (cdT 96) 46 = some (.iconst 0, 0, 0) := by decide +kernel
theorem fX9_doesHold_47 : fet (cdT 96) 47 = some (.ireturn, 0, 0) := by decide +kernel
theorem fX9_doesHold_48 : fet (cdT 96) 48 = some (.iload_n 1, 0, 0) := by decide +kernel
theorem fX9_doesHold_49 : fet (cdT 96) 49 = some (.ifCond .eq 11, 0, 0) := by decide +kernel
theorem fX9_doesHold_52 : fet (cdT 96) 52 = some (.iload_n 2, 0, 0) := by decide +kernel
theorem fX9_doesHold_53 : fet (cdT 96) 53 = some (.ifCond .ne 7, 0, 0) := by decide +kernel
theorem fX9_doesHold_56 : fet (cdT 96) 56 = some (.iconst 1, 0, 0) := by decide +kernel
theorem fX9_doesHold_57 : fet (cdT 96) 57 = some (.goto 4, 0, 0) := by decide +kernel
theorem fX9_doesHold_60 : fet (cdT 96) 60 = some (.iconst 0, 0, 0) := by decide +kernel
theorem fX9_doesHold_61 : fet (cdT 96) 61 = some (.ireturn, 0, 0) := by decide +kernel
theorem fX9_doesHold_62 : fet (cdT 96) 62 = some (.iload_n 1, 0, 0) := by decide +kernel
theorem fX9_doesHold_63 : fet (cdT 96) 63 = some (.ifCond .ne 11, 0, 0) := by decide +kernel
theorem fX9_doesHold_66 : fet (cdT 96) 66 = some (.iload_n 2, 0, 0) := by decide +kernel
theorem fX9_doesHold_67 : fet (cdT 96) 67 = some (.ifCond .eq 7, 0, 0) := by decide +kernel
theorem fX9_doesHold_70 : fet (cdT 96) 70 = some (.iconst 1, 0, 0) := by decide +kernel
theorem fX9_doesHold_71 : fet (cdT 96) 71 = some (.goto 4, 0, 0) := by decide +kernel
theorem fX9_doesHold_74 : fet (cdT 96) 74 = some (.iconst 0, 0, 0) := by decide +kernel
theorem fX9_doesHold_75 : fet (cdT 96) 75 = some (.ireturn, 0, 0) := by decide +kernel
theorem fX9_doRung_0 : fet (cdT 97) 0 = some (.aload_n 2, 0, 0) := by decide +kernel
theorem fX9_doRung_1 : fet (cdT 97) 1 = some (.getfield 94, 3, 1) := by decide +kernel
theorem fX9_doRung_4 : fet (cdT 97) 4 = some (.lookupswitch 172 #[(60, 75), (61, 60), (65, 134), (67, 122), (82, 122), (84, 122)], 0, 0) := by decide +kernel
theorem fX9_doRung_64 : fet (cdT 97) 64 = some (.aload_n 0, 0, 0) := by decide +kernel
theorem fX9_doRung_65 : fet (cdT 97) 65 = some (.getfield 22, 9, 2) := by decide +kernel
theorem fX9_doRung_68 : fet (cdT 97) 68 = some (.aload_n 2, 0, 0) := by decide +kernel
theorem fX9_doRung_69 : fet (cdT 97) 69 = some (.getfield 98, 3, 2) := by decide +kernel
theorem fX9_doRung_72 : fet (cdT 97) 72 = some (.iload_n 3, 0, 0) := by decide +kernel
theorem fX9_doRung_73 : fet (cdT 97) 73 = some (.invokevirtual 435, 32, 0) := by decide +kernel
theorem fX9_doRung_76 : fet (cdT 97) 76 = some (.goto 109, 0, 0) := by decide +kernel
theorem fX9_doRung_79 : fet (cdT 97) 79 = some (.aload_n 0, 0, 0) := by decide +kernel
theorem fX9_doRung_80 : fet (cdT 97) 80 = some (.getfield 22, 9, 2) := by decide +kernel
theorem fX9_doRung_83 : fet (cdT 97) 83 = some (.aload_n 2, 0, 0) := by decide +kernel
theorem fX9_doRung_84 : fet (cdT 97) 84 = some (.getfield 98, 3, 2) := by decide +kernel
theorem fX9_doRung_87 : fet (cdT 97) 87 = some (.iload_n 3, 0, 0) := by decide +kernel
theorem fX9_doRung_88 : fet (cdT 97) 88 = some (.ifCond .eq 31, 0, 0) := by decide +kernel
theorem fX9_doRung_91 : fet (cdT 97) 91 = some (.aload_n 0, 0, 0) := by decide +kernel
theorem fX9_doRung_92 : fet (cdT 97) 92 = some (.getfield 22, 9, 2) := by decide +kernel
theorem fX9_doRung_95 : fet (cdT 97) 95 = some (.getfield 309, 5, 4) := by decide +kernel
theorem fX9_doRung_98 : fet (cdT 97) 98 = some (.aload_n 2, 0, 0) := by decide +kernel
theorem fX9_doRung_99 : fet (cdT 97) 99 = some (.getfield 101, 3, 3) := by decide +kernel
theorem fX9_doRung_102 : fet (cdT 97) 102 = some (.iaload, 0, 0) := by decide +kernel
theorem fX9_doRung_103 : fet (cdT 97) 103 = some (.aload_n 0, 0, 0) := by decide +kernel
theorem fX9_doRung_104 : fet (cdT 97) 104 = some (.getfield 22, 9, 2) := by decide +kernel
theorem fX9_doRung_107 : fet (cdT 97) 107 = some (.getfield 309, 5, 4) := by decide +kernel
theorem fX9_doRung_110 : fet (cdT 97) 110 = some (.iconst 0, 0, 0) := by decide +kernel
theorem fX9_doRung_111 : fet (cdT 97) 111 = some (.iaload, 0, 0) := by decide +kernel
theorem fX9_doRung_112 : fet (cdT 97) 112 = some (.if_icmp .ge 7, 0, 0) := by decide +kernel
theorem fX9_doRung_115 : fet (cdT 97) 115 = some (.iconst 1, 0, 0) := by decide +kernel
theorem fX9_doRung_116 : fet (cdT 97) 116 = some (.goto 4, 0, 0) := by decide +kernel
theorem fX9_doRung_119 : fet (cdT 97) 119 = some (.iconst 0, 0, 0) := by decide +kernel
theorem fX9_doRung_120 : fet (cdT 97) 120 = some (.invokevirtual 435, 32, 0) := by decide +kernel
theorem fX9_doRung_123 : fet (cdT 97) 123 = some (.goto 62, 0, 0) := by decide +kernel
theorem fX9_doRung_126 : fet (cdT 97) 126 = some (.aload_n 0, 0, 0) := by decide +kernel
theorem fX9_doRung_127 : fet (cdT 97) 127 = some (.iload_n 1, 0, 0) := by decide +kernel
theorem fX9_doRung_128 : fet (cdT 97) 128 = some (.aload_n 2, 0, 0) := by decide +kernel
theorem fX9_doRung_129 : fet (cdT 97) 129 = some (.iload_n 3, 0, 0) := by decide +kernel
theorem fX9_doRung_130 : fet (cdT 97) 130 = some (.iload 4, 0, 0) := by decide +kernel
theorem fX9_doRung_132 : fet (cdT 97) 132 = some (.invokevirtual 438, 99, 0) := by decide +kernel
theorem fX9_doRung_135 : fet (cdT 97) 135 = some (.goto 50, 0, 0) := by decide +kernel
theorem fX9_doRung_138 : fet (cdT 97) 138 = some (.iload_n 3, 0, 0) := by decide +kernel
theorem fX9_doRung_139 : fet (cdT 97) 139 = some (.ifCond .eq 20, 0, 0) := by decide +kernel
theorem fX9_doRung_142 : fet (cdT 97) 142 = some (.aload_n 0, 0, 0) := by decide +kernel
theorem fX9_doRung_143 : fet (cdT 97) 143 = some (.getfield 22, 9, 2) := by decide +kernel
theorem fX9_doRung_146 : fet (cdT 97) 146 = some (.getfield 249, 5, 9) := by decide +kernel
theorem fX9_doRung_149 : fet (cdT 97) 149 = some (.aload_n 2, 0, 0) := by decide +kernel
theorem fX9_doRung_150 : fet (cdT 97) 150 = some (.getfield 98, 3, 2) := by decide +kernel
theorem fX9_doRung_153 : fet (cdT 97) 153 = some (.invokevirtual 441, 5, 0) := by decide +kernel
theorem fX9_doRung_156 : fet (cdT 97) 156 = some (.goto 29, 0, 0) := by decide +kernel
theorem fX9_doRung_159 : fet (cdT 97) 159 = some (.aload_n 0, 0, 0) := by decide +kernel
theorem fX9_doRung_160 : fet (cdT 97) 160 = some (.getfield 22, 9, 2) := by decide +kernel
theorem fX9_doRung_163 : fet (cdT 97) 163 = some (.getfield 249, 5, 9) := by decide +kernel
theorem fX9_doRung_166 : fet (cdT 97) 166 = some (.aload_n 2, 0, 0) := by decide +kernel
theorem fX9_doRung_167 : fet (cdT 97) 167 = some (.getfield 98, 3, 2) := by decide +kernel
theorem fX9_doRung_170 : fet (cdT 97) 170 = some (.invokevirtual 444, 6, 0) := by decide +kernel
theorem fX9_doRung_173 : fet (cdT 97) 173 = some (.goto 12, 0, 0) := by decide +kernel
theorem fX9_doRung_176 : fet (cdT 97) 176 = some (.iload_n 3, 0, 0) := by decide +kernel
theorem fX9_doRung_177 : fet (cdT 97) 177 = some (.ifCond .eq 8, 0, 0) := by decide +kernel
theorem fX9_doRung_180 : fet (cdT 97) 180 = some (.aload_n 0, 0, 0) := by decide +kernel
theorem fX9_doRung_181 : fet (cdT 97) 181 = some (.aload_n 2, 0, 0) := by decide +kernel
theorem fX9_doRung_182 : fet (cdT 97) 182 = some (.invokevirtual 447, 98, 0) := by decide +kernel
theorem fX9_doRung_185 : fet (cdT 97) 185 = some (.return_, 0, 0) := by decide +kernel
theorem fX9_doIfHeld_0 : fet (cdT 98) 0 = some (.aload_n 1, 0, 0) := by decide +kernel
theorem fX9_doIfHeld_1 : fet (cdT 98) 1 = some (.getfield 94, 3, 1) := by decide +kernel
theorem fX9_doIfHeld_4 : fet (cdT 98) 4 = some (.lookupswitch 162 #[(43, 132), (90, 82), (107, 113), (114, 67), (115, 52)], 0, 0) := by decide +kernel
theorem fX9_doIfHeld_56 : fet (cdT 98) 56 = some (.aload_n 0, 0, 0) := by decide +kernel
theorem fX9_doIfHeld_57 : fet (cdT 98) 57 = some (.getfield 22, 9, 2) := by decide +kernel
theorem fX9_doIfHeld_60 : fet (cdT 98) 60 = some (.aload_n 1, 0, 0) := by decide +kernel
theorem fX9_doIfHeld_61 : fet (cdT 98) 61 = some (.getfield 98, 3, 2) := by decide +kernel
theorem fX9_doIfHeld_64 : fet (cdT 98) 64 = some (.iconst 1, 0, 0) := by decide +kernel
theorem fX9_doIfHeld_65 : fet (cdT 98) 65 = some (.invokevirtual 435, 32, 0) := by decide +kernel
theorem fX9_doIfHeld_68 : fet (cdT 98) 68 = some (.goto 98, 0, 0) := by decide +kernel
theorem fX9_doIfHeld_71 : fet (cdT 98) 71 = some (.aload_n 0, 0, 0) := by decide +kernel
theorem fX9_doIfHeld_72 : fet (cdT 98) 72 = some (.getfield 22, 9, 2) := by decide +kernel
theorem fX9_doIfHeld_75 : fet (cdT 98) 75 = some (.aload_n 1, 0, 0) := by decide +kernel
theorem fX9_doIfHeld_76 : fet (cdT 98) 76 = some (.getfield 98, 3, 2) := by decide +kernel
theorem fX9_doIfHeld_79 : fet (cdT 98) 79 = some (.iconst 0, 0, 0) := by decide +kernel
theorem fX9_doIfHeld_80 : fet (cdT 98) 80 = some (.invokevirtual 435, 32, 0) := by decide +kernel
theorem fX9_doIfHeld_83 : fet (cdT 98) 83 = some (.goto 83, 0, 0) := by decide +kernel
theorem fX9_doIfHeld_86 : fet (cdT 98) 86 = some (.aload_n 0, 0, 0) := by decide +kernel
theorem fX9_doIfHeld_87 : fet (cdT 98) 87 = some (.getfield 22, 9, 2) := by decide +kernel
theorem fX9_doIfHeld_90 : fet (cdT 98) 90 = some (.getfield 312, 5, 5) := by decide +kernel
theorem fX9_doIfHeld_93 : fet (cdT 98) 93 = some (.aload_n 1, 0, 0) := by decide +kernel
theorem fX9_doIfHeld_94 : fet (cdT 98) 94 = some (.getfield 98, 3, 2) := by decide +kernel
theorem fX9_doIfHeld_97 : fet (cdT 98) 97 = some (.iconst 0, 0, 0) := by decide +kernel
theorem fX9_doIfHeld_98 : fet (cdT 98) 98 = some (.iastore, 0, 0) := by decide +kernel
theorem fX9_doIfHeld_99 : fet (cdT 98) 99 = some (.aload_n 0, 0, 0) := by decide +kernel
theorem fX9_doIfHeld_100 : fet (cdT 98) 100 = some (.getfield 22, 9, 2) := by decide +kernel
theorem fX9_doIfHeld_103 : fet (cdT 98) 103 = some (.bipush 24, 0, 0) := by decide +kernel
theorem fX9_doIfHeld_105 : fet (cdT 98) 105 = some (.aload_n 1, 0, 0) := by decide +kernel
theorem fX9_doIfHeld_106 : fet (cdT 98) 106 = some (.getfield 98, 3, 2) := by decide +kernel
theorem fX9_doIfHeld_109 : fet (cdT 98) 109 = some (.iadd, 0, 0) := by decide +kernel
theorem fX9_doIfHeld_110 : fet (cdT 98) 110 = some (.iconst 0, 0, 0) := by decide +kernel
theorem fX9_doIfHeld_111 : fet (cdT 98) 111 = some (.invokevirtual 435, 32, 0) := by decide +kernel
theorem fX9_doIfHeld_114 : fet (cdT 98) 114 = some (.goto 52, 0, 0) := by decide +kernel
theorem fX9_doIfHeld_117 : fet (cdT 98) 117 = some (.aload_n 0, 0, 0) := by decide +kernel
theorem fX9_doIfHeld_118 : fet (cdT 98) 118 = some (.getfield 22, 9, 2) := by decide +kernel
theorem fX9_doIfHeld_121 : fet (cdT 98) 121 = some (.getfield 309, 5, 4) := by decide +kernel
theorem fX9_doIfHeld_124 : fet (cdT 98) 124 = some (.aload_n 1, 0, 0) := by decide +kernel
theorem fX9_doIfHeld_125 : fet (cdT 98) 125 = some (.getfield 98, 3, 2) := by decide +kernel
theorem fX9_doIfHeld_128 : fet (cdT 98) 128 = some (.aload_n 1, 0, 0) := by decide +kernel
theorem fX9_doIfHeld_129 : fet (cdT 98) 129 = some (.getfield 101, 3, 3) := by decide +kernel
theorem fX9_doIfHeld_132 : fet (cdT 98) 132 = some (.iastore, 0, 0) := by decide +kernel
theorem fX9_doIfHeld_133 : fet (cdT 98) 133 = some (.goto 33, 0, 0) := by decide +kernel
theorem fX9_doIfHeld_136 : fet (cdT 98) 136 = some (.aload_n 0, 0, 0) := by decide +kernel
theorem fX9_doIfHeld_137 : fet (cdT 98) 137 = some (.getfield 22, 9, 2) := by decide +kernel
theorem fX9_doIfHeld_140 : fet (cdT 98) 140 = some (.getfield 309, 5, 4) := by decide +kernel
theorem fX9_doIfHeld_143 : fet (cdT 98) 143 = some (.aload_n 1, 0, 0) := by decide +kernel
theorem fX9_doIfHeld_144 : fet (cdT 98) 144 = some (.getfield 98, 3, 2) := by decide +kernel
theorem fX9_doIfHeld_147 : fet (cdT 98) 147 = some (.dup2, 0, 0) := by decide +kernel
theorem fX9_doIfHeld_148 : fet (cdT 98) 148 = some (.iaload, 0, 0) := by decide +kernel
theorem fX9_doIfHeld_149 : fet (cdT 98) 149 = some (.aload_n 0, 0, 0) := by decide +kernel
theorem fX9_doIfHeld_150 : fet (cdT 98) 150 = some (.getfield 22, 9, 2) := by decide +kernel
theorem fX9_doIfHeld_153 : fet (cdT 98) 153 = some (.getfield 309, 5, 4) := by decide +kernel
theorem fX9_doIfHeld_156 : fet (cdT 98) 156 = some (.aload_n 1, 0, 0) := by decide +kernel
theorem fX9_doIfHeld_157 : fet (cdT 98) 157 = some (.getfield 101, 3, 3) := by decide +kernel
theorem fX9_doIfHeld_160 : fet (cdT 98) 160 = some (.iaload, 0, 0) := by decide +kernel
theorem fX9_doIfHeld_161 : fet (cdT 98) 161 = some (.iadd, 0, 0) := by decide +kernel
theorem fX9_doIfHeld_162 : fet (cdT 98) 162 = some (.iastore, 0, 0) := by decide +kernel
theorem fX9_doIfHeld_163 : fet (cdT 98) 163 = some (.goto 3, 0, 0) := by decide +kernel
theorem fX9_doIfHeld_166 : fet (cdT 98) 166 = some (.return_, 0, 0) := by decide +kernel
theorem fX9_runTimer_0 : fet (cdT 99) 0 = some (.aload_n 0, 0, 0) := by decide +kernel
theorem fX9_runTimer_1 : fet (cdT 99) 1 = some (.getfield 22, 9, 2) := by decide +kernel
theorem fX9_runTimer_4 : fet (cdT 99) 4 = some (.getfield 312, 5, 5) := by decide +kernel
theorem fX9_runTimer_7 : fet (cdT 99) 7 = some (.aload_n 2, 0, 0) := by decide +kernel
theorem fX9_runTimer_8 : fet (cdT 99) 8 = some (.getfield 98, 3, 2) := by decide +kernel
theorem fX9_runTimer_11 : fet (cdT 99) 11 = some (.iaload, 0, 0) := by decide +kernel
theorem fX9_runTimer_12 : fet (cdT 99) 12 = some (.istore 5, 0, 0) := by decide +kernel
theorem fX9_runTimer_14 : fet (cdT 99) 14 = some (.aload_n 2, 0, 0) := by decide +kernel
theorem fX9_runTimer_15 : fet (cdT 99) 15 = some (.getfield 94, 3, 1) := by decide +kernel
theorem fX9_runTimer_18 : fet (cdT 99) 18 = some (.bipush 67, 0, 0) := by decide +kernel
theorem fX9_runTimer_20 : fet (cdT 99) 20 = some (.if_icmp .ne 33, 0, 0) := by decide +kernel
theorem fX9_runTimer_23 : fet (cdT 99) 23 = some (.iload_n 3, 0, 0) := by decide +kernel
theorem fX9_runTimer_24 : fet (cdT 99) 24 = some (.ifCond .eq 17, 0, 0) := by decide +kernel
theorem fX9_runTimer_27 : fet (cdT 99) 27 = some (.aload_n 0, 0, 0) := by decide +kernel
theorem fX9_runTimer_28 : fet (cdT 99) 28 = some (.getfield 22, 9, 2) := by decide +kernel
theorem fX9_runTimer_31 : fet (cdT 99) 31 = some (.iload_n 1, 0, 0) := by decide +kernel
theorem fX9_runTimer_32 : fet (cdT 99) 32 = some (.invokevirtual 375, 30, 0) := by decide +kernel
theorem fX9_runTimer_35 : fet (cdT 99) 35 = some (.ifCond .ne 6, 0, 0) := by decide +kernel
theorem fX9_runTimer_38 : fet (cdT 99) 38 = some (.iinc 5 1, 0, 0) := by decide +kernel
theorem fX9_runTimer_41 : fet (cdT 99) 41 = some (.aload_n 0, 0, 0) := by decide +kernel
theorem fX9_runTimer_42 : fet (cdT 99) 42 = some (.getfield 22, 9, 2) := by decide +kernel
theorem fX9_runTimer_45 : fet (cdT 99) 45 = some (.iload_n 1, 0, 0) := by decide +kernel
theorem fX9_runTimer_46 : fet (cdT 99) 46 = some (.iload_n 3, 0, 0) := by decide +kernel
theorem fX9_runTimer_47 : fet (cdT 99) 47 = some (.invokevirtual 378, 31, 0) := by decide +kernel
theorem fX9_runTimer_50 : fet (cdT 99) 50 = some (.goto 29, 0, 0) := by decide +kernel
theorem fX9_runTimer_53 : fet (cdT 99) 53 = some (.iload_n 3, 0, 0) := by decide +kernel
theorem fX9_runTimer_54 : fet (cdT 99) 54 = some (.ifCond .eq 13, 0, 0) := by decide +kernel
theorem fX9_runTimer_57 : fet (cdT 99) 57 = some (.iload 5, 0, 0) := by decide +kernel
theorem fX9_runTimer_59 : fet (cdT 99) 59 = some (.iload 4, 0, 0) := by decide +kernel
theorem fX9_runTimer_61 : fet (cdT 99) 61 = some (.iadd, 0, 0) := by decide +kernel
theorem fX9_runTimer_62 : fet (cdT 99) 62 = some (.istore 5, 0, 0) := by decide +kernel
theorem fX9_runTimer_64 : fet (cdT 99) 64 = some (.goto 15, 0, 0) := by decide +kernel
theorem fX9_runTimer_67 : fet (cdT 99) 67 = some (.aload_n 2, 0, 0) := by decide +kernel
theorem fX9_runTimer_68 : fet (cdT 99) 68 = some (.getfield 94, 3, 1) := by decide +kernel
theorem fX9_runTimer_71 : fet (cdT 99) 71 = some (.bipush 84, 0, 0) := by decide +kernel
theorem fX9_runTimer_73 : fet (cdT 99) 73 = some (.if_icmp .ne 6, 0, 0) := by decide +kernel
theorem fX9_runTimer_76 : fet (cdT 99) 76 = some (.iconst 0, 0, 0) := by decide +kernel
theorem fX9_runTimer_77 : fet (cdT 99) 77 = some (.istore 5, 0, 0) := by decide +kernel
theorem fX9_runTimer_79 : fet (cdT 99) 79 = some (.iload 5, 0, 0) := by decide +kernel
theorem fX9_runTimer_81 : fet (cdT 99) 81 = some (.aload_n 2, 0, 0) := by decide +kernel
theorem fX9_runTimer_82 : fet (cdT 99) 82 = some (.getfield 101, 3, 3) := by decide +kernel
theorem fX9_runTimer_85 : fet (cdT 99) 85 = some (.invokestatic 451, 0, 3) := by decide +kernel
theorem fX9_runTimer_88 : fet (cdT 99) 88 = some (.istore 5, 0, 0) := by decide +kernel
theorem fX9_runTimer_90 : fet (cdT 99) 90 = some (.aload_n 0, 0, 0) := by decide +kernel
theorem fX9_runTimer_91 : fet (cdT 99) 91 = some (.getfield 22, 9, 2) := by decide +kernel
theorem fX9_runTimer_94 : fet (cdT 99) 94 = some (.getfield 312, 5, 5) := by decide +kernel
theorem fX9_runTimer_97 : fet (cdT 99) 97 = some (.aload_n 2, 0, 0) := by decide +kernel
theorem fX9_runTimer_98 : fet (cdT 99) 98 = some (.getfield 98, 3, 2) := by decide +kernel
theorem fX9_runTimer_101 : fet (cdT 99) 101 = some (.iload 5, 0, 0) := by decide +kernel
theorem fX9_runTimer_103 : fet (cdT 99) 103 = some (.iastore, 0, 0) := by decide +kernel
theorem fX9_runTimer_104 : fet (cdT 99) 104 = some (.aload_n 0, 0, 0) := by decide +kernel
theorem fX9_runTimer_105 : fet (cdT 99) 105 = some (.getfield 22, 9, 2) := by decide +kernel
theorem fX9_runTimer_108 : fet (cdT 99) 108 = some (.bipush 24, 0, 0) := by decide +kernel
theorem fX9_runTimer_110 : fet (cdT 99) 110 = some (.aload_n 2, 0, 0) := by decide +kernel
theorem fX9_runTimer_111 : fet (cdT 99) 111 = some (.getfield 98, 3, 2) := by decide +kernel
theorem fX9_runTimer_114 : fet (cdT 99) 114 = some (.iadd, 0, 0) := by decide +kernel
theorem fX9_runTimer_115 : fet (cdT 99) 115 = some (.iload 5, 0, 0) := by decide +kernel
theorem fX9_runTimer_117 : fet (cdT 99) 117 = some (.aload_n 2, 0, 0) := by decide +kernel
theorem fX9_runTimer_118 : fet (cdT 99) 118 = some (.getfield 101, 3, 3) := by decide +kernel
theorem fX9_runTimer_121 : fet (cdT 99) 121 = some (.if_icmp .lt 7, 0, 0) := by decide +kernel
theorem fX9_runTimer_124 : fet (cdT 99) 124 = some (.iconst 1, 0, 0) := by decide +kernel
theorem fX9_runTimer_125 : fet (cdT 99) 125 = some (.goto 4, 0, 0) := by decide +kernel
theorem fX9_runTimer_128 : fet (cdT 99) 128 = some (.iconst 0, 0, 0) := by decide +kernel
theorem fX9_runTimer_129 : fet (cdT 99) 129 = some (.invokevirtual 435, 32, 0) := by decide +kernel
theorem fX9_runTimer_132 : fet (cdT 99) 132 = some (.return_, 0, 0) := by decide +kernel
theorem fX9_runChart_0 : fet (cdT 100) 0 = some (.aload_n 0, 0, 0) := by decide +kernel
theorem fX9_runChart_1 : fet (cdT 100) 1 = some (.getfield 22, 9, 2) := by decide +kernel
theorem fX9_runChart_4 : fet (cdT 100) 4 = some (.getfield 194, 5, 1) := by decide +kernel
theorem fX9_runChart_7 : fet (cdT 100) 7 = some (.istore_n 2, 0, 0) := by decide +kernel
theorem fX9_runChart_8 : fet (cdT 100) 8 = some (.aload_n 0, 0, 0) := by decide +kernel
theorem fX9_runChart_9 : fet (cdT 100) 9 = some (.invokevirtual 456, 101, 0) := by decide +kernel
theorem fX9_runChart_12 : fet (cdT 100) 12 = some (.istore_n 3, 0, 0) := by decide +kernel
theorem fX9_runChart_13 : fet (cdT 100) 13 = some (.iload_n 2, 0, 0) := by decide +kernel
theorem fX9_runChart_14 : fet (cdT 100) 14 = some (.aload_n 0, 0, 0) := by decide +kernel
theorem fX9_runChart_15 : fet (cdT 100) 15 = some (.getfield 22, 9, 2) := by decide +kernel
theorem fX9_runChart_18 : fet (cdT 100) 18 = some (.getfield 194, 5, 1) := by decide +kernel
theorem fX9_runChart_21 : fet (cdT 100) 21 = some (.iconst (-1), 0, 0) := by decide +kernel
theorem fX9_runChart_22 : fet (cdT 100) 22 = some (.ixor, 0, 0) := by decide +kernel
theorem fX9_runChart_23 : fet (cdT 100) 23 = some (.iload_n 3, 0, 0) := by decide +kernel
theorem fX9_runChart_24 : fet (cdT 100) 24 = some (.ior, 0, 0) := by decide +kernel
theorem fX9_runChart_25 : fet (cdT 100) 25 = some (.iand, 0, 0) := by decide +kernel
theorem fX9_runChart_26 : fet (cdT 100) 26 = some (.istore 4, 0, 0) := by decide +kernel
theorem fX9_runChart_28 : fet (cdT 100) 28 = some (.aload_n 0, 0, 0) := by decide +kernel
theorem fX9_runChart_29 : fet (cdT 100) 29 = some (.getfield 22, 9, 2) := by decide +kernel
theorem fX9_runChart_32 : fet (cdT 100) 32 = some (.getfield 194, 5, 1) := by decide +kernel
theorem fX9_runChart_35 : fet (cdT 100) 35 = some (.iload_n 3, 0, 0) := by decide +kernel
theorem fX9_runChart_36 : fet (cdT 100) 36 = some (.iand, 0, 0) := by decide +kernel
theorem fX9_runChart_37 : fet (cdT 100) 37 = some (.istore 5, 0, 0) := by decide +kernel
theorem fX9_runChart_39 : fet (cdT 100) 39 = some (.iconst 0, 0, 0) := by decide +kernel
theorem fX9_runChart_40 : fet (cdT 100) 40 = some (.istore 6, 0, 0) := by decide +kernel
theorem fX9_runChart_42 : fet (cdT 100) 42 = some (.iload 6, 0, 0) := by decide +kernel
theorem fX9_runChart_44 : fet (cdT 100) 44 = some (.aload_n 0, 0, 0) := by decide +kernel
theorem fX9_runChart_45 : fet (cdT 100) 45 = some (.getfield 10, 9, 0) := by decide +kernel
theorem fX9_runChart_48 : fet (cdT 100) 48 = some (.getfield 126, 2, 1) := by decide +kernel
theorem fX9_runChart_51 : fet (cdT 100) 51 = some (.if_icmp .ge 62, 0, 0) := by decide +kernel
theorem fX9_runChart_54 : fet (cdT 100) 54 = some (.iload 5, 0, 0) := by decide +kernel
theorem fX9_runChart_56 : fet (cdT 100) 56 = some (.iload 6, 0, 0) := by decide +kernel
theorem fX9_runChart_58 : fet (cdT 100) 58 = some (.invokestatic 217, 83, 1) := by decide +kernel
theorem fX9_runChart_61 : fet (cdT 100) 61 = some (.ifCond .eq 17, 0, 0) := by decide +kernel
theorem fX9_runChart_64 : fet (cdT 100) 64 = some (.aload_n 0, 0, 0) := by decide +kernel
theorem fX9_runChart_65 : fet (cdT 100) 65 = some (.getfield 22, 9, 2) := by decide +kernel
theorem fX9_runChart_68 : fet (cdT 100) 68 = some (.getfield 318, 5, 6) := by decide +kernel
theorem fX9_runChart_71 : fet (cdT 100) 71 = some (.iload 6, 0, 0) := by decide +kernel
theorem fX9_runChart_73 : fet (cdT 100) 73 = some (.iconst 0, 0, 0) := by decide +kernel
theorem fX9_runChart_74 : fet (cdT 100) 74 = some (.iastore, 0, 0) := by decide +kernel
theorem fX9_runChart_75 : fet (cdT 100) 75 = some (.goto 32, 0, 0) := by decide +kernel
theorem fX9_runChart_78 : fet (cdT 100) 78 = some (.aload_n 0, 0, 0) := by decide +kernel
theorem fX9_runChart_79 : fet (cdT 100) 79 = some (.getfield 22, 9, 2) := by decide +kernel
theorem fX9_runChart_82 : fet (cdT 100) 82 = some (.getfield 194, 5, 1) := by decide +kernel
theorem fX9_runChart_85 : fet (cdT 100) 85 = some (.iload 6, 0, 0) := by decide +kernel
theorem fX9_runChart_87 : fet (cdT 100) 87 = some (.invokestatic 217, 83, 1) := by decide +kernel
theorem fX9_runChart_90 : fet (cdT 100) 90 = some (.ifCond .eq 17, 0, 0) := by decide +kernel
theorem fX9_runChart_93 : fet (cdT 100) 93 = some (.aload_n 0, 0, 0) := by decide +kernel
theorem fX9_runChart_94 : fet (cdT 100) 94 = some (.getfield 22, 9, 2) := by decide +kernel
theorem fX9_runChart_97 : fet (cdT 100) 97 = some (.getfield 318, 5, 6) := by decide +kernel
theorem fX9_runChart_100 : fet (cdT 100) 100 = some (.iload 6, 0, 0) := by decide +kernel
theorem fX9_runChart_102 : fet (cdT 100) 102 = some (.dup2, 0, 0) := by decide +kernel
theorem fX9_runChart_103 : fet (cdT 100) 103 = some (.iaload, 0, 0) := by decide +kernel
theorem fX9_runChart_104 : fet (cdT 100) 104 = some (.iload_n 1, 0, 0) := by decide +kernel
theorem fX9_runChart_105 : fet (cdT 100) 105 = some (.iadd, 0, 0) := by decide +kernel
theorem fX9_runChart_106 : fet (cdT 100) 106 = some (.iastore, 0, 0) := by decide +kernel
theorem fX9_runChart_107 : fet (cdT 100) 107 = some (.iinc 6 1, 0, 0) := by decide +kernel
theorem fX9_runChart_110 : fet (cdT 100) 110 = some (.goto (-68), 0, 0) := by decide +kernel
theorem fX9_runChart_113 : fet (cdT 100) 113 = some (.iconst 0, 0, 0) := by decide +kernel
theorem fX9_runChart_114 : fet (cdT 100) 114 = some (.istore 6, 0, 0) := by decide +kernel
theorem fX9_runChart_116 : fet (cdT 100) 116 = some (.iload 6, 0, 0) := by decide +kernel
theorem fX9_runChart_118 : fet (cdT 100) 118 = some (.aload_n 0, 0, 0) := by decide +kernel
theorem fX9_runChart_119 : fet (cdT 100) 119 = some (.getfield 10, 9, 0) := by decide +kernel
theorem fX9_runChart_122 : fet (cdT 100) 122 = some (.getfield 126, 2, 1) := by decide +kernel
theorem fX9_runChart_125 : fet (cdT 100) 125 = some (.if_icmp .ge 33, 0, 0) := by decide +kernel
theorem fX9_runChart_128 : fet (cdT 100) 128 = some (.iload 4, 0, 0) := by decide +kernel
theorem fX9_runChart_130 : fet (cdT 100) 130 = some (.iload 6, 0, 0) := by decide +kernel
theorem fX9_runChart_132 : fet (cdT 100) 132 = some (.invokestatic 217, 83, 1) := by decide +kernel
theorem fX9_runChart_135 : fet (cdT 100) 135 = some (.ifCond .eq 17, 0, 0) := by decide +kernel
theorem fX9_runChart_138 : fet (cdT 100) 138 = some (.aload_n 0, 0, 0) := by decide +kernel
theorem fX9_runChart_139 : fet (cdT 100) 139 = some (.aload_n 0, 0, 0) := by decide +kernel
theorem fX9_runChart_140 : fet (cdT 100) 140 = some (.getfield 10, 9, 0) := by decide +kernel
theorem fX9_runChart_143 : fet (cdT 100) 143 = some (.getfield 129, 2, 4) := by decide +kernel
theorem fX9_runChart_146 : fet (cdT 100) 146 = some (.iload 6, 0, 0) := by decide +kernel
theorem fX9_runChart_148 : fet (cdT 100) 148 = some (.aaload, 0, 0) := by decide +kernel
theorem fX9_runChart_149 : fet (cdT 100) 149 = some (.invokevirtual 459, 103, 0) := by decide +kernel
theorem fX9_runChart_152 : fet (cdT 100) 152 = some (.iinc 6 1, 0, 0) := by decide +kernel
theorem fX9_runChart_155 : fet (cdT 100) 155 = some (.goto (-39), 0, 0) := by decide +kernel
theorem fX9_runChart_158 : fet (cdT 100) 158 = some (.iconst 0, 0, 0) := by decide +kernel
theorem fX9_runChart_159 : fet (cdT 100) 159 = some (.istore 6, 0, 0) := by decide +kernel
theorem fX9_runChart_161 : fet (cdT 100) 161 = some (.iload 6, 0, 0) := by decide +kernel
theorem fX9_runChart_163 : fet (cdT 100) 163 = some (.aload_n 0, 0, 0) := by decide +kernel
theorem fX9_runChart_164 : fet (cdT 100) 164 = some (.getfield 10, 9, 0) := by decide +kernel
theorem fX9_runChart_167 : fet (cdT 100) 167 = some (.getfield 126, 2, 1) := by decide +kernel
theorem fX9_runChart_170 : fet (cdT 100) 170 = some (.if_icmp .ge 55, 0, 0) := by decide +kernel
theorem fX9_runChart_173 : fet (cdT 100) 173 = some (.aload_n 0, 0, 0) := by decide +kernel
theorem fX9_runChart_174 : fet (cdT 100) 174 = some (.getfield 22, 9, 2) := by decide +kernel
theorem fX9_runChart_177 : fet (cdT 100) 177 = some (.getfield 194, 5, 1) := by decide +kernel
theorem fX9_runChart_180 : fet (cdT 100) 180 = some (.iload 6, 0, 0) := by decide +kernel
theorem fX9_runChart_182 : fet (cdT 100) 182 = some (.invokestatic 217, 83, 1) := by decide +kernel
theorem fX9_runChart_185 : fet (cdT 100) 185 = some (.ifCond .eq 34, 0, 0) := by decide +kernel
theorem fX9_runChart_188 : fet (cdT 100) 188 = some (.aload_n 0, 0, 0) := by decide +kernel
theorem fX9_runChart_189 : fet (cdT 100) 189 = some (.aload_n 0, 0, 0) := by decide +kernel
theorem fX9_runChart_190 : fet (cdT 100) 190 = some (.getfield 10, 9, 0) := by decide +kernel
theorem fX9_runChart_193 : fet (cdT 100) 193 = some (.getfield 129, 2, 4) := by decide +kernel
theorem fX9_runChart_196 : fet (cdT 100) 196 = some (.iload 6, 0, 0) := by decide +kernel
theorem fX9_runChart_198 : fet (cdT 100) 198 = some (.aaload, 0, 0) := by decide +kernel
theorem fX9_runChart_199 : fet (cdT 100) 199 = some (.iload 5, 0, 0) := by decide +kernel
theorem fX9_runChart_201 : fet (cdT 100) 201 = some (.iload 6, 0, 0) := by decide +kernel
theorem fX9_runChart_203 : fet (cdT 100) 203 = some (.invokestatic 217, 83, 1) := by decide +kernel
theorem fX9_runChart_206 : fet (cdT 100) 206 = some (.aload_n 0, 0, 0) := by decide +kernel
theorem fX9_runChart_207 : fet (cdT 100) 207 = some (.getfield 22, 9, 2) := by decide +kernel
theorem fX9_runChart_210 : fet (cdT 100) 210 = some (.getfield 318, 5, 6) := by decide +kernel
theorem fX9_runChart_213 : fet (cdT 100) 213 = some (.iload 6, 0, 0) := by decide +kernel
theorem fX9_runChart_215 : fet (cdT 100) 215 = some (.iaload, 0, 0) := by decide +kernel
theorem fX9_runChart_216 : fet (cdT 100) 216 = some (.invokevirtual 463, 104, 0) := by decide +kernel
theorem fX9_runChart_219 : fet (cdT 100) 219 = some (.iinc 6 1, 0, 0) := by decide +kernel
theorem fX9_runChart_222 : fet (cdT 100) 222 = some (.goto (-61), 0, 0) := by decide +kernel
theorem fX9_runChart_225 : fet (cdT 100) 225 = some (.return_, 0, 0) := by decide +kernel
theorem fX9_fireTransitions_0 : fet (cdT 101) 0 = some (.iconst 0, 0, 0) := by decide +kernel
theorem fX9_fireTransitions_1 : fet (cdT 101) 1 = some (.istore_n 1, 0, 0) := by decide +kernel
theorem fX9_fireTransitions_2 : fet (cdT 101) 2 = some (.aload_n 0, 0, 0) := by decide +kernel
theorem fX9_fireTransitions_3 : fet (cdT 101) 3 = some (.invokevirtual 303, 86, 0) := by decide +kernel
theorem fX9_fireTransitions_6 : fet (cdT 101) 6 = some (.istore_n 2, 0, 0) := by decide +kernel
theorem fX9_fireTransitions_7 : fet (cdT 101) 7 = some (.iconst 0, 0, 0) := by decide +kernel
theorem fX9_fireTransitions_8 : fet (cdT 101) 8 = some (.istore_n 3, 0, 0) := by decide +kernel
theorem fX9_fireTransitions_9 : fet (cdT 101) 9 = some (.iload_n 3, 0, 0) := by decide +kernel
theorem fX9_fireTransitions_10 : fet (cdT 101) 10 = some (.aload_n 0, 0, 0) := by decide +kernel
theorem fX9_fireTransitions_11 : fet (cdT 101) 11 = some (.getfield 10, 9, 0) := by decide +kernel
theorem fX9_fireTransitions_14 : fet (cdT 101) 14 = some (.getfield 162, 2, 2) := by decide +kernel
theorem fX9_fireTransitions_17 : fet (cdT 101) 17 = some (.if_icmp .ge 55, 0, 0) := by decide +kernel
theorem fX9_fireTransitions_20 : fet (cdT 101) 20 = some (.aload_n 0, 0, 0) := by decide +kernel
theorem fX9_fireTransitions_21 : fet (cdT 101) 21 = some (.getfield 10, 9, 0) := by decide +kernel
theorem fX9_fireTransitions_24 : fet (cdT 101) 24 = some (.getfield 165, 2, 5) := by decide +kernel
theorem fX9_fireTransitions_27 : fet (cdT 101) 27 = some (.iload_n 3, 0, 0) := by decide +kernel
theorem fX9_fireTransitions_28 : fet (cdT 101) 28 = some (.aaload, 0, 0) := by decide +kernel
theorem fX9_fireTransitions_29 : fet (cdT 101) 29 = some (.astore 4, 0, 0) := by decide +kernel
theorem fX9_fireTransitions_31 : fet (cdT 101) 31 = some (.aload_n 0, 0, 0) := by decide +kernel
theorem fX9_fireTransitions_32 : fet (cdT 101) 32 = some (.aload 4, 0, 0) := by decide +kernel
theorem fX9_fireTransitions_34 : fet (cdT 101) 34 = some (.getfield 172, 8, 0) := by decide +kernel
theorem fX9_fireTransitions_37 : fet (cdT 101) 37 = some (.invokevirtual 467, 102, 0) := by decide +kernel
theorem fX9_fireTransitions_40 : fet (cdT 101) 40 = some (.ifCond .eq 26, 0, 0) := by decide +kernel
theorem fX9_fireTransitions_43 : fet (cdT 101) 43 = some (.iload_n 2, 0, 0) := by decide +kernel
theorem fX9_fireTransitions_44 : fet (cdT 101) 44 = some (.aload 4, 0, 0) := by decide +kernel
theorem fX9_fireTransitions_46 : fet (cdT 101) 46 = some (.getfield 180, 8, 2) := by decide +kernel
theorem fX9_fireTransitions_49 : fet (cdT 101) 49 = some (.invokestatic 217, 83, 1) := by decide +kernel
theorem fX9_fireTransitions_52 : fet (cdT 101) 52 = some (.aload 4, 0, 0) := by decide +kernel
theorem fX9_fireTransitions_54 : fet (cdT 101) 54 = some (.getfield 183, 8, 3) := by decide +kernel
theorem fX9_fireTransitions_57 : fet (cdT 101) 57 = some (.if_icmp .ne 9, 0, 0) := by decide +kernel
theorem fX9_fireTransitions_60 : fet (cdT 101) 60 = some (.iload_n 1, 0, 0) := by decide +kernel
theorem fX9_fireTransitions_61 : fet (cdT 101) 61 = some (.iconst 1, 0, 0) := by decide +kernel
theorem fX9_fireTransitions_62 : fet (cdT 101) 62 = some (.iload_n 3, 0, 0) := by decide +kernel
theorem fX9_fireTransitions_63 : fet (cdT 101) 63 = some (.ishl, 0, 0) := by decide +kernel
theorem fX9_fireTransitions_64 : fet (cdT 101) 64 = some (.ior, 0, 0) := by decide +kernel
theorem fX9_fireTransitions_65 : fet (cdT 101) 65 = some (.istore_n 1, 0, 0) := by decide +kernel
theorem fX9_fireTransitions_66 : fet (cdT 101) 66 = some (.iinc 3 1, 0, 0) := by decide +kernel
theorem fX9_fireTransitions_69 : fet (cdT 101) 69 = some (.goto (-60), 0, 0) := by decide +kernel
theorem fX9_fireTransitions_72 : fet (cdT 101) 72 = some (.iconst 0, 0, 0) := by decide +kernel
theorem fX9_fireTransitions_73 : fet (cdT 101) 73 = some (.istore_n 3, 0, 0) := by decide +kernel
theorem fX9_fireTransitions_74 : fet (cdT 101) 74 = some (.iconst 0, 0, 0) := by decide +kernel
theorem fX9_fireTransitions_75 : fet (cdT 101) 75 = some (.istore 4, 0, 0) := by decide +kernel
theorem fX9_fireTransitions_77 : fet (cdT 101) 77 = some (.iload 4, 0, 0) := by decide +kernel
theorem fX9_fireTransitions_79 : fet (cdT 101) 79 = some (.aload_n 0, 0, 0) := by decide +kernel
theorem fX9_fireTransitions_80 : fet (cdT 101) 80 = some (.getfield 10, 9, 0) := by decide +kernel
theorem fX9_fireTransitions_83 : fet (cdT 101) 83 = some (.getfield 162, 2, 2) := by decide +kernel
theorem fX9_fireTransitions_86 : fet (cdT 101) 86 = some (.if_icmp .ge 78, 0, 0) := by decide +kernel
theorem fX9_fireTransitions_89 : fet (cdT 101) 89 = some (.aload_n 0, 0, 0) := by decide +kernel
theorem fX9_fireTransitions_90 : fet (cdT 101) 90 = some (.getfield 10, 9, 0) := by decide +kernel
theorem fX9_fireTransitions_93 : fet (cdT 101) 93 = some (.getfield 165, 2, 5) := by decide +kernel
theorem fX9_fireTransitions_96 : fet (cdT 101) 96 = some (.iload 4, 0, 0) := by decide +kernel
theorem fX9_fireTransitions_98 : fet (cdT 101) 98 = some (.aaload, 0, 0) := by decide +kernel
theorem fX9_fireTransitions_99 : fet (cdT 101) 99 = some (.astore 5, 0, 0) := by decide +kernel
theorem fX9_fireTransitions_101 : fet (cdT 101) 101 = some (.iload_n 1, 0, 0) := by decide +kernel
theorem fX9_fireTransitions_102 : fet (cdT 101) 102 = some (.iload 4, 0, 0) := by decide +kernel
theorem fX9_fireTransitions_104 : fet (cdT 101) 104 = some (.invokestatic 217, 83, 1) := by decide +kernel
theorem fX9_fireTransitions_107 : fet (cdT 101) 107 = some (.ifCond .eq 51, 0, 0) := by decide +kernel
theorem fX9_fireTransitions_110 : fet (cdT 101) 110 = some (.aload_n 0, 0, 0) := by decide +kernel
theorem fX9_fireTransitions_111 : fet (cdT 101) 111 = some (.aload 5, 0, 0) := by decide +kernel
theorem fX9_fireTransitions_113 : fet (cdT 101) 113 = some (.getfield 172, 8, 0) := by decide +kernel
theorem fX9_fireTransitions_116 : fet (cdT 101) 116 = some (.invokevirtual 467, 102, 0) := by decide +kernel
theorem fX9_fireTransitions_119 : fet (cdT 101) 119 = some (.ifCond .eq 39, 0, 0) := by decide +kernel
theorem fX9_fireTransitions_122 : fet (cdT 101) 122 = some (.aload_n 0, 0, 0) := by decide +kernel
theorem fX9_fireTransitions_123 : fet (cdT 101) 123 = some (.getfield 22, 9, 2) := by decide +kernel
theorem fX9_fireTransitions_126 : fet (cdT 101) 126 = some (.aload_n 0, 0, 0) := by decide +kernel
theorem fX9_fireTransitions_127 : fet (cdT 101) 127 = some (.getfield 22, 9, 2) := by decide +kernel
theorem fX9_fireTransitions_130 : fet (cdT 101) 130 = some (.getfield 194, 5, 1) := by decide +kernel
theorem fX9_fireTransitions_133 : fet (cdT 101) 133 = some (.aload 5, 0, 0) := by decide +kernel
theorem fX9_fireTransitions_135 : fet (cdT 101) 135 = some (.getfield 172, 8, 0) := by decide +kernel
theorem fX9_fireTransitions_138 : fet (cdT 101) 138 = some (.iconst (-1), 0, 0) := by decide +kernel
theorem fX9_fireTransitions_139 : fet (cdT 101) 139 = some (.ixor, 0, 0) := by decide +kernel
theorem fX9_fireTransitions_140 : fet (cdT 101) 140 = some (.iand, 0, 0) := by decide +kernel
theorem fX9_fireTransitions_141 : fet (cdT 101) 141 = some (.aload 5, 0, 0) := by decide +kernel
theorem fX9_fireTransitions_143 : fet (cdT 101) 143 = some (.getfield 177, 8, 1) := by decide +kernel
theorem fX9_fireTransitions_146 : fet (cdT 101) 146 = some (.ior, 0, 0) := by decide +kernel
theorem fX9_fireTransitions_147 : fet (cdT 101) 147 = some (.putfield 194, 5, 1) := by decide +kernel
theorem fX9_fireTransitions_150 : fet (cdT 101) 150 = some (.iload_n 3, 0, 0) := by decide +kernel
theorem fX9_fireTransitions_151 : fet (cdT 101) 151 = some (.aload 5, 0, 0) := by decide +kernel
theorem fX9_fireTransitions_153 : fet (cdT 101) 153 = some (.getfield 177, 8, 1) := by decide +kernel
theorem fX9_fireTransitions_156 : fet (cdT 101) 156 = some (.ior, 0, 0) := by decide +kernel
theorem fX9_fireTransitions_157 : fet (cdT 101) 157 = some (.istore_n 3, 0, 0) := by decide +kernel
theorem fX9_fireTransitions_158 : fet (cdT 101) 158 = some (.iinc 4 1, 0, 0) := by decide +kernel
theorem fX9_fireTransitions_161 : fet (cdT 101) 161 = some (.goto (-84), 0, 0) := by decide +kernel
theorem fX9_fireTransitions_164 : fet (cdT 101) 164 = some (.iload_n 3, 0, 0) := by decide +kernel
theorem fX9_fireTransitions_165 : fet (cdT 101) 165 = some (.ireturn, 0, 0) := by decide +kernel
theorem fX9_areActive_0 : fet (cdT 102) 0 = some (.aload_n 0, 0, 0) := by decide +kernel
theorem fX9_areActive_1 : fet (cdT 102) 1 = some (.getfield 22, 9, 2) := by decide +kernel
theorem fX9_areActive_4 : fet (cdT 102) 4 = some (.getfield 194, 5, 1) := by decide +kernel
theorem fX9_areActive_7 : fet (cdT 102) 7 = some (.iload_n 1, 0, 0) := by decide +kernel
theorem fX9_areActive_8 : fet (cdT 102) 8 = some (.iand, 0, 0) := by decide +kernel
theorem fX9_areActive_9 : fet (cdT 102) 9 = some (.iload_n 1, 0, 0) := by decide +kernel
theorem fX9_areActive_10 : fet (cdT 102) 10 = some (.if_icmp .ne 7, 0, 0) := by decide +kernel
theorem fX9_areActive_13 : fet (cdT 102) 13 = some (.iconst 1, 0, 0) := by decide +kernel
theorem fX9_areActive_14 : fet (cdT 102) 14 = some (.goto 4, 0, 0) := by decide +kernel
theorem fX9_areActive_17 : fet (cdT 102) 17 = some (.iconst 0, 0, 0) := by decide +kernel
theorem fX9_areActive_18 : fet (cdT 102) 18 = some (.ireturn, 0, 0) := by decide +kernel
theorem fX9_clearActions_0 : fet (cdT 103) 0 = some (.iconst 0, 0, 0) := by decide +kernel
theorem fX9_clearActions_1 : fet (cdT 103) 1 = some (.istore_n 2, 0, 0) := by decide +kernel
theorem fX9_clearActions_2 : fet (cdT 103) 2 = some (.iload_n 2, 0, 0) := by decide +kernel
theorem fX9_clearActions_3 : fet (cdT 103) 3 = some (.aload_n 1, 0, 0) := by decide +kernel
theorem fX9_clearActions_4 : fet (cdT 103) 4 = some (.getfield 133, 6, 0) := by decide +kernel
theorem fX9_clearActions_7 : fet (cdT 103) 7 = some (.if_icmp .ge 48, 0, 0) := by decide +kernel
theorem fX9_clearActions_10 : fet (cdT 103) 10 = some (.aload_n 1, 0, 0) := by decide +kernel
theorem fX9_clearActions_11 : fet (cdT 103) 11 = some (.getfield 150, 6, 1) := by decide +kernel
theorem fX9_clearActions_14 : fet (cdT 103) 14 = some (.iload_n 2, 0, 0) := by decide +kernel
theorem fX9_clearActions_15 : fet (cdT 103) 15 = some (.caload, 0, 0) := by decide +kernel
theorem fX9_clearActions_16 : fet (cdT 103) 16 = some (.istore_n 3, 0, 0) := by decide +kernel
theorem fX9_clearActions_17 : fet (cdT 103) 17 = some (.iload_n 3, 0, 0) := by decide +kernel
theorem fX9_clearActions_18 : fet (cdT 103) 18 = some (.bipush 110, 0, 0) := by decide +kernel
theorem fX9_clearActions_20 : fet (cdT 103) 20 = some (.if_icmp .eq 15, 0, 0) := by decide +kernel
theorem fX9_clearActions_23 : fet (cdT 103) 23 = some (.iload_n 3, 0, 0) := by decide +kernel
theorem fX9_clearActions_24 : fet (cdT 103) 24 = some (.bipush 100, 0, 0) := by decide +kernel
theorem fX9_clearActions_26 : fet (cdT 103) 26 = some (.if_icmp .eq 9, 0, 0) := by decide +kernel
theorem fX9_clearActions_29 : fet (cdT 103) 29 = some (.iload_n 3, 0, 0) := by decide +kernel
theorem fX9_clearActions_30 : fet (cdT 103) 30 = some (.bipush 108, 0, 0) := by decide +kernel
theorem fX9_clearActions_32 : fet (cdT 103) 32 = some (.if_icmp .ne 17, 0, 0) := by decide +kernel
theorem fX9_clearActions_35 : fet (cdT 103) 35 = some (.aload_n 0, 0, 0) := by decide +kernel
theorem fX9_clearActions_36 : fet (cdT 103) 36 = some (.getfield 22, 9, 2) := by decide +kernel
theorem fX9_clearActions_39 : fet (cdT 103) 39 = some (.aload_n 1, 0, 0) := by decide +kernel
theorem fX9_clearActions_40 : fet (cdT 103) 40 = some (.getfield 153, 6, 2) := by decide +kernel
theorem fX9_clearActions_43 : fet (cdT 103) 43 = some (.iload_n 2, 0, 0) := by decide +kernel
theorem fX9_clearActions_44 : fet (cdT 103) 44 = some (.iaload, 0, 0) := by decide +kernel
theorem fX9_clearActions_45 : fet (cdT 103) 45 = some (.iconst 0, 0, 0) := by decide +kernel
theorem fX9_clearActions_46 : fet (cdT 103) 46 = some (.invokevirtual 435, 32, 0) := by decide +kernel
theorem fX9_clearActions_49 : fet (cdT 103) 49 = some (.iinc 2 1, 0, 0) := by decide +kernel
theorem fX9_clearActions_52 : fet (cdT 103) 52 = some (.goto (-50), 0, 0) := by decide +kernel
theorem fX9_clearActions_55 : fet (cdT 103) 55 = some (.return_, 0, 0) := by decide +kernel
theorem fX9_doActions_0 : fet (cdT 104) 0 = some (.iconst 0, 0, 0) := by decide +kernel
theorem fX9_doActions_1 : fet (cdT 104) 1 = some (.istore 4, 0, 0) := by decide +kernel
theorem fX9_doActions_3 : fet (cdT 104) 3 = some (.iload 4, 0, 0) := by decide +kernel
theorem fX9_doActions_5 : fet (cdT 104) 5 = some (.aload_n 1, 0, 0) := by decide +kernel
theorem fX9_doActions_6 : fet (cdT 104) 6 = some (.getfield 133, 6, 0) := by decide +kernel
theorem fX9_doActions_9 : fet (cdT 104) 9 = some (.if_icmp .ge 160, 0, 0) := by decide +kernel
theorem fX9_doActions_12 : fet (cdT 104) 12 = some (.aload_n 1, 0, 0) := by decide +kernel
theorem fX9_doActions_13 : fet (cdT 104) 13 = some (.getfield 153, 6, 2) := by decide +kernel
theorem fX9_doActions_16 : fet (cdT 104) 16 = some (.iload 4, 0, 0) := by decide +kernel
theorem fX9_doActions_18 : fet (cdT 104) 18 = some (.iaload, 0, 0) := by decide +kernel
theorem fX9_doActions_19 : fet (cdT 104) 19 = some (.istore 5, 0, 0) := by decide +kernel
theorem fX9_doActions_21 : fet (cdT 104) 21 = some (.aload_n 1, 0, 0) := by decide +kernel
theorem fX9_doActions_22 : fet (cdT 104) 22 = some (.getfield 150, 6, 1) := by decide +kernel
theorem fX9_doActions_25 : fet (cdT 104) 25 = some (.iload 4, 0, 0) := by decide +kernel
theorem fX9_doActions_27 : fet (cdT 104) 27 = some (.caload, 0, 0) := by decide +kernel
theorem fX9_doActions_28 : fet (cdT 104) 28 = some (.lookupswitch 105 #[(100, 49), (108, 77), (110, 36)], 0, 0) := by decide +kernel
theorem fX9_doActions_64 : fet (cdT 104) 64 = some (.aload_n 0, 0, 0) := by decide +kernel
theorem fX9_doActions_65 : fet (cdT 104) 65 = some (.getfield 22, 9, 2) := by decide +kernel
theorem fX9_doActions_68 : fet (cdT 104) 68 = some (.iload 5, 0, 0) := by decide +kernel
theorem fX9_doActions_70 : fet (cdT 104) 70 = some (.iconst 1, 0, 0) := by decide +kernel
theorem fX9_doActions_71 : fet (cdT 104) 71 = some (.invokevirtual 435, 32, 0) := by decide +kernel
theorem fX9_doActions_74 : fet (cdT 104) 74 = some (.goto 89, 0, 0) := by decide +kernel
theorem fX9_doActions_77 : fet (cdT 104) 77 = some (.aload_n 0, 0, 0) := by decide +kernel
theorem fX9_doActions_78 : fet (cdT 104) 78 = some (.getfield 22, 9, 2) := by decide +kernel
theorem fX9_doActions_81 : fet (cdT 104) 81 = some (.iload 5, 0, 0) := by decide +kernel
theorem fX9_doActions_83 : fet (cdT 104) 83 = some (.iload_n 3, 0, 0) := by decide +kernel
theorem fX9_doActions_84 : fet (cdT 104) 84 = some (.aload_n 1, 0, 0) := by decide +kernel
theorem fX9_doActions_85 : fet (cdT 104) 85 = some (.getfield 156, 6, 3) := by decide +kernel
theorem fX9_doActions_88 : fet (cdT 104) 88 = some (.iload 4, 0, 0) := by decide +kernel
theorem fX9_doActions_90 : fet (cdT 104) 90 = some (.iaload, 0, 0) := by decide +kernel
theorem fX9_doActions_91 : fet (cdT 104) 91 = some (.if_icmp .lt 7, 0, 0) := by decide +kernel
theorem fX9_doActions_94 : fet (cdT 104) 94 = some (.iconst 1, 0, 0) := by decide +kernel
theorem fX9_doActions_95 : fet (cdT 104) 95 = some (.goto 4, 0, 0) := by decide +kernel
theorem fX9_doActions_98 : fet (cdT 104) 98 = some (.iconst 0, 0, 0) := by decide +kernel
theorem fX9_doActions_99 : fet (cdT 104) 99 = some (.invokevirtual 435, 32, 0) := by decide +kernel
theorem fX9_doActions_102 : fet (cdT 104) 102 = some (.goto 61, 0, 0) := by decide +kernel
theorem fX9_doActions_105 : fet (cdT 104) 105 = some (.aload_n 0, 0, 0) := by decide +kernel
theorem fX9_doActions_106 : fet (cdT 104) 106 = some (.getfield 22, 9, 2) := by decide +kernel
theorem fX9_doActions_109 : fet (cdT 104) 109 = some (.iload 5, 0, 0) := by decide +kernel
theorem fX9_doActions_111 : fet (cdT 104) 111 = some (.iload_n 3, 0, 0) := by decide +kernel
theorem fX9_doActions_112 : fet (cdT 104) 112 = some (.aload_n 1, 0, 0) := by decide +kernel
theorem fX9_doActions_113 : fet (cdT 104) 113 = some (.getfield 156, 6, 3) := by decide +kernel
theorem fX9_doActions_116 : fet (cdT 104) 116 = some (.iload 4, 0, 0) := by decide +kernel
theorem fX9_doActions_118 : fet (cdT 104) 118 = some (.iaload, 0, 0) := by decide +kernel
theorem fX9_doActions_119 : fet (cdT 104) 119 = some (.if_icmp .ge 7, 0, 0) := by decide +kernel
theorem fX9_doActions_122 : fet (cdT 104) 122 = some (.iconst 1, 0, 0) := by decide +kernel
theorem fX9_doActions_123 : fet (cdT 104) 123 = some (.goto 4, 0, 0) := by decide +kernel
theorem fX9_doActions_126 : fet (cdT 104) 126 = some (.iconst 0, 0, 0) := by decide +kernel
theorem fX9_doActions_127 : fet (cdT 104) 127 = some (.invokevirtual 435, 32, 0) := by decide +kernel
theorem fX9_doActions_130 : fet (cdT 104) 130 = some (.goto 33, 0, 0) := by decide +kernel
theorem fX9_doActions_133 : fet (cdT 104) 133 = some (.iload_n 2, 0, 0) := by decide +kernel
theorem fX9_doActions_134 : fet (cdT 104) 134 = some (.ifCond .eq 29, 0, 0) := by decide +kernel
theorem fX9_doActions_137 : fet (cdT 104) 137 = some (.aload_n 0, 0, 0) := by decide +kernel
theorem fX9_doActions_138 : fet (cdT 104) 138 = some (.getfield 22, 9, 2) := by decide +kernel
theorem fX9_doActions_141 : fet (cdT 104) 141 = some (.iload 5, 0, 0) := by decide +kernel
theorem fX9_doActions_143 : fet (cdT 104) 143 = some (.aload_n 1, 0, 0) := by decide +kernel
theorem fX9_doActions_144 : fet (cdT 104) 144 = some (.getfield 150, 6, 1) := by decide +kernel
theorem fX9_doActions_147 : fet (cdT 104) 147 = some (.iload 4, 0, 0) := by decide +kernel
theorem fX9_doActions_149 : fet (cdT 104) 149 = some (.caload, 0, 0) := by decide +kernel
theorem fX9_doActions_150 : fet (cdT 104) 150 = some (.bipush 115, 0, 0) := by decide +kernel
theorem fX9_doActions_152 : fet (cdT 104) 152 = some (.if_icmp .ne 7, 0, 0) := by decide +kernel
theorem fX9_doActions_155 : fet (cdT 104) 155 = some (.iconst 1, 0, 0) := by decide +kernel
theorem fX9_doActions_156 : fet (cdT 104) 156 = some (.goto 4, 0, 0) := by decide +kernel
theorem fX9_doActions_159 : fet (cdT 104) 159 = some (.iconst 0, 0, 0) := by decide +kernel
theorem fX9_doActions_160 : fet (cdT 104) 160 = some (.invokevirtual 435, 32, 0) := by decide +kernel
theorem fX9_doActions_163 : fet (cdT 104) 163 = some (.iinc 4 1, 0, 0) := by decide +kernel
theorem fX9_doActions_166 : fet (cdT 104) 166 = some (.goto (-163), 0, 0) := by decide +kernel
theorem fX9_doActions_169 : fet (cdT 104) 169 = some (.return_, 0, 0) := by decide +kernel
theorem fJ0_length_8abf5_0 : fet (cdT 105) 0 = some (.aload_n 0, 0, 0) := by decide +kernel
theorem fJ0_length_8abf5_1 : fet (cdT 105) 1 = some (.getfield 9, 200, 1) := by decide +kernel
theorem fJ0_length_8abf5_4 : fet (cdT 105) 4 = some (.arraylength, 0, 0) := by decide +kernel
theorem fJ0_length_8abf5_5 : fet (cdT 105) 5 = some (.aload_n 0, 0, 0) := by decide +kernel
theorem fJ0_length_8abf5_6 : fet (cdT 105) 6 = some (.invokevirtual 335, 109, 0) := by decide +kernel
theorem fJ0_length_8abf5_9 : fet (cdT 105) 9 = some (.ishr, 0, 0) := by decide +kernel
theorem fJ0_length_8abf5_10 : fet (cdT 105) 10 = some (.ireturn, 0, 0) := by decide +kernel
theorem fJ0_charAt_5068e_0 : fet (cdT 106) 0 = some (.aload_n 0, 0, 0) := by decide +kernel
theorem fJ0_charAt_5068e_1 : fet (cdT 106) 1 = some (.invokevirtual 492, 110, 0) := by decide +kernel
theorem fJ0_charAt_5068e_4 : fet (cdT 106) 4 = some (.ifCond .eq 12, 0, 0) := by decide +kernel
theorem fJ0_charAt_5068e_7 : fet (cdT 106) 7 = some (.aload_n 0, 0, 0) := by decide +kernel
theorem fJ0_charAt_5068e_8 : fet (cdT 106) 8 = some (.getfield 9, 200, 1) := by decide +kernel
theorem fJ0_charAt_5068e_11 : fet (cdT 106) 11 = some (.iload_n 1, 0, 0) := by decide +kernel
theorem fJ0_charAt_5068e_12 : fet (cdT 106) 12 = some (.invokestatic 495, 112, 1) := by decide +kernel
theorem fJ0_charAt_5068e_15 : fet (cdT 106) 15 = some (.ireturn, 0, 0) := by decide +kernel
theorem fJ0_charAt_5068e_16 : fet (cdT 106) 16 = some (.aload_n 0, 0, 0) := by decide +kernel
theorem fJ0_charAt_5068e_17 : fet (cdT 106) 17 = some (.getfield 9, 200, 1) := by decide +kernel
theorem fJ0_charAt_5068e_20 : fet (cdT 106) 20 = some (.iload_n 1, 0, 0) := by decide +kernel
theorem fJ0_charAt_5068e_24 : fet (cdT 106) 24 = some (.ireturn, 0, 0) := by decide +kernel
theorem fJ0_indexOf_0f7a4_0 : fet (cdT 107) 0 = some (.aload_n 0, 0, 0) := by decide +kernel
theorem fJ0_indexOf_0f7a4_1 : fet (cdT 107) 1 = some (.iload_n 1, 0, 0) := by decide +kernel
theorem fJ0_indexOf_0f7a4_2 : fet (cdT 107) 2 = some (.iconst 0, 0, 0) := by decide +kernel
theorem fJ0_indexOf_0f7a4_3 : fet (cdT 107) 3 = some (.invokevirtual 633, 108, 0) := by decide +kernel
theorem fJ0_indexOf_0f7a4_6 : fet (cdT 107) 6 = some (.ireturn, 0, 0) := by decide +kernel
theorem fJ0_indexOf_7cf53_0 : fet (cdT 108) 0 = some (.aload_n 0, 0, 0) := by decide +kernel
theorem fJ0_indexOf_7cf53_1 : fet (cdT 108) 1 = some (.invokevirtual 492, 110, 0) := by decide +kernel
theorem fJ0_indexOf_7cf53_4 : fet (cdT 108) 4 = some (.ifCond .eq 19, 0, 0) := by decide +kernel
theorem fJ0_indexOf_7cf53_7 : fet (cdT 108) 7 = some (.aload_n 0, 0, 0) := by decide +kernel
theorem fJ0_indexOf_7cf53_8 : fet (cdT 108) 8 = some (.getfield 9, 200, 1) := by decide +kernel
theorem fJ0_indexOf_7cf53_11 : fet (cdT 108) 11 = some (.iload_n 1, 0, 0) := by decide +kernel
theorem fJ0_indexOf_7cf53_12 : fet (cdT 108) 12 = some (.iload_n 2, 0, 0) := by decide +kernel
theorem fJ0_indexOf_7cf53_13 : fet (cdT 108) 13 = some (.aload_n 0, 0, 0) := by decide +kernel
theorem fJ0_indexOf_7cf53_14 : fet (cdT 108) 14 = some (.invokevirtual 505, 105, 0) := by decide +kernel
theorem fJ0_indexOf_7cf53_17 : fet (cdT 108) 17 = some (.invokestatic 637, 114, 1) := by decide +kernel
theorem fJ0_indexOf_7cf53_20 : fet (cdT 108) 20 = some (.goto 16, 0, 0) := by decide +kernel
theorem fJ0_indexOf_7cf53_23 : fet (cdT 108) 23 = some (.aload_n 0, 0, 0) := by decide +kernel
theorem fJ0_indexOf_7cf53_24 : fet (cdT 108) 24 = some (.getfield 9, 200, 1) := by decide +kernel
theorem fJ0_indexOf_7cf53_27 : fet (cdT 108) 27 = some (.iload_n 1, 0, 0) := by decide +kernel
theorem fJ0_indexOf_7cf53_28 : fet (cdT 108) 28 = some (.iload_n 2, 0, 0) := by decide +kernel
theorem fJ0_indexOf_7cf53_29 : fet (cdT 108) 29 = some (.aload_n 0, 0, 0) := by decide +kernel
theorem fJ0_indexOf_7cf53_30 : fet (cdT 108) 30 = some (.invokevirtual 505, 105, 0) := by decide +kernel
theorem fJ0_indexOf_7cf53_36 : fet (cdT 108) 36 = some (.ireturn, 0, 0) := by decide +kernel
theorem fJ0_coder_7d493_0 : fet (cdT 109) 0 = some (.getstatic 38, 1, 0) := by decide +kernel
theorem fJ0_coder_7d493_3 : fet (cdT 109) 3 = some (.ifCond .eq 10, 0, 0) := by decide +kernel
theorem fJ0_coder_7d493_6 : fet (cdT 109) 6 = some (.aload_n 0, 0, 0) := by decide +kernel
theorem fJ0_coder_7d493_7 : fet (cdT 109) 7 = some (.getfield 15, 200, 0) := by decide +kernel
theorem fJ0_coder_7d493_10 : fet (cdT 109) 10 = some (.goto 4, 0, 0) := by decide +kernel
theorem fJ0_coder_7d493_13 : fet (cdT 109) 13 = some (.iconst 1, 0, 0) := by decide +kernel
theorem fJ0_coder_7d493_14 : fet (cdT 109) 14 = some (.ireturn, 0, 0) := by decide +kernel
theorem fJ0_isLatin1_aae02_0 : fet (cdT 110) 0 = some (.getstatic 38, 1, 0) := by decide +kernel
theorem fJ0_isLatin1_aae02_3 : fet (cdT 110) 3 = some (.ifCond .eq 14, 0, 0) := by decide +kernel
theorem fJ0_isLatin1_aae02_6 : fet (cdT 110) 6 = some (.aload_n 0, 0, 0) := by decide +kernel
theorem fJ0_isLatin1_aae02_7 : fet (cdT 110) 7 = some (.getfield 15, 200, 0) := by decide +kernel
theorem fJ0_isLatin1_aae02_10 : fet (cdT 110) 10 = some (.ifCond .ne 7, 0, 0) := by decide +kernel
theorem fJ0_isLatin1_aae02_13 : fet (cdT 110) 13 = some (.iconst 1, 0, 0) := by decide +kernel
theorem fJ0_isLatin1_aae02_14 : fet (cdT 110) 14 = some (.goto 4, 0, 0) := by decide +kernel
theorem fJ0_isLatin1_aae02_17 : fet (cdT 110) 17 = some (.iconst 0, 0, 0) := by decide +kernel
theorem fJ0_isLatin1_aae02_18 : fet (cdT 110) 18 = some (.ireturn, 0, 0) := by decide +kernel
theorem fJ0_checkIndex_df160_0 : fet (cdT 111) 0 = some (.iload_n 0, 0, 0) := by decide +kernel
theorem fJ0_checkIndex_df160_1 : fet (cdT 111) 1 = some (.iload_n 1, 0, 0) := by decide +kernel
theorem fJ0_checkIndex_df160_2 : fet (cdT 111) 2 = some (.getstatic 1053, 2, 0) := by decide +kernel
theorem fJ0_checkIndex_df160_5 : fet (cdT 111) 5 = some (.invokestatic 1059, 116, 1) := by decide +kernel
theorem fJ0_checkIndex_df160_8 : fet (cdT 111) 8 = some (.pop, 0, 0) := by decide +kernel
theorem fJ0_checkIndex_df160_9 : fet (cdT 111) 9 = some (.return_, 0, 0) := by decide +kernel
theorem fJ1_charAt_3b067_0 : fet (cdT 112) 0 = some (.iload_n 1, 0, 0) := by decide +kernel
theorem fJ1_charAt_3b067_1 : fet (cdT 112) 1 = some (.aload_n 0, 0, 0) := by decide +kernel
theorem fJ1_charAt_3b067_2 : fet (cdT 112) 2 = some (.arraylength, 0, 0) := by decide +kernel
theorem fJ1_charAt_3b067_3 : fet (cdT 112) 3 = some (.invokestatic 9, 111, 1) := by decide +kernel
theorem fJ1_charAt_3b067_6 : fet (cdT 112) 6 = some (.aload_n 0, 0, 0) := by decide +kernel
theorem fJ1_charAt_3b067_7 : fet (cdT 112) 7 = some (.iload_n 1, 0, 0) := by decide +kernel
theorem fJ1_charAt_3b067_8 : fet (cdT 112) 8 = some (.baload, 0, 0) := by decide +kernel
theorem fJ1_charAt_3b067_9 : fet (cdT 112) 9 = some (.sipush 255, 0, 0) := by decide +kernel
theorem fJ1_charAt_3b067_12 : fet (cdT 112) 12 = some (.iand, 0, 0) := by decide +kernel
theorem fJ1_charAt_3b067_13 : fet (cdT 112) 13 = some (.i2c, 0, 0) := by decide +kernel
theorem fJ1_charAt_3b067_14 : fet (cdT 112) 14 = some (.ireturn, 0, 0) := by decide +kernel
theorem fJ1_canEncode_9a6ad_0 : fet (cdT 113) 0 = some (.iload_n 0, 0, 0) := by decide +kernel
theorem fJ1_canEncode_9a6ad_1 : fet (cdT 113) 1 = some (.ifCond .lt 14, 0, 0) := by decide +kernel
theorem fJ1_canEncode_9a6ad_4 : fet (cdT 113) 4 = some (.iload_n 0, 0, 0) := by decide +kernel
theorem fJ1_canEncode_9a6ad_5 : fet (cdT 113) 5 = some (.sipush 255, 0, 0) := by decide +kernel
theorem fJ1_canEncode_9a6ad_8 : fet (cdT 113) 8 = some (.if_icmp .gt 7, 0, 0) := by decide +kernel
theorem fJ1_canEncode_9a6ad_11 : fet (cdT 113) 11 = some (.iconst 1, 0, 0) := by decide +kernel
theorem fJ1_canEncode_9a6ad_12 : fet (cdT 113) 12 = some (.goto 4, 0, 0) := by decide +kernel
theorem fJ1_canEncode_9a6ad_15 : fet (cdT 113) 15 = some (.iconst 0, 0, 0) := by decide +kernel
theorem fJ1_canEncode_9a6ad_16 : fet (cdT 113) 16 = some (.ireturn, 0, 0) := by decide +kernel
theorem fJ1_indexOf_4cfef_0 : fet (cdT 114) 0 = some (.iload_n 1, 0, 0) := by decide +kernel
theorem fJ1_indexOf_4cfef_1 : fet (cdT 114) 1 = some (.invokestatic 88, 113, 1) := by decide +kernel
theorem fJ1_indexOf_4cfef_4 : fet (cdT 114) 4 = some (.ifCond .ne 5, 0, 0) := by decide +kernel
theorem fJ1_indexOf_4cfef_7 : fet (cdT 114) 7 = some (.iconst (-1), 0, 0) := by decide +kernel
theorem fJ1_indexOf_4cfef_8 : fet (cdT 114) 8 = some (.ireturn, 0, 0) := by decide +kernel
theorem fJ1_indexOf_4cfef_9 : fet (cdT 114) 9 = some (.iload_n 2, 0, 0) := by decide +kernel
theorem fJ1_indexOf_4cfef_10 : fet (cdT 114) 10 = some (.iconst 0, 0, 0) := by decide +kernel
theorem fJ1_indexOf_4cfef_11 : fet (cdT 114) 11 = some (.invokestatic 92, 0, 5) := by decide +kernel
theorem fJ1_indexOf_4cfef_14 : fet (cdT 114) 14 = some (.istore_n 2, 0, 0) := by decide +kernel
theorem fJ1_indexOf_4cfef_15 : fet (cdT 114) 15 = some (.iload_n 3, 0, 0) := by decide +kernel
theorem fJ1_indexOf_4cfef_16 : fet (cdT 114) 16 = some (.aload_n 0, 0, 0) := by decide +kernel
theorem fJ1_indexOf_4cfef_17 : fet (cdT 114) 17 = some (.arraylength, 0, 0) := by decide +kernel
theorem fJ1_indexOf_4cfef_18 : fet (cdT 114) 18 = some (.invokestatic 38, 0, 3) := by decide +kernel
theorem fJ1_indexOf_4cfef_21 : fet (cdT 114) 21 = some (.istore_n 3, 0, 0) := by decide +kernel
theorem fJ1_indexOf_4cfef_22 : fet (cdT 114) 22 = some (.iload_n 2, 0, 0) := by decide +kernel
theorem fJ1_indexOf_4cfef_23 : fet (cdT 114) 23 = some (.iload_n 3, 0, 0) := by decide +kernel
theorem fJ1_indexOf_4cfef_24 : fet (cdT 114) 24 = some (.if_icmp .lt 5, 0, 0) := by decide +kernel
theorem fJ1_indexOf_4cfef_27 : fet (cdT 114) 27 = some (.iconst (-1), 0, 0) := by decide +kernel
theorem fJ1_indexOf_4cfef_28 : fet (cdT 114) 28 = some (.ireturn, 0, 0) := by decide +kernel
theorem fJ1_indexOf_4cfef_29 : fet (cdT 114) 29 = some (.aload_n 0, 0, 0) := by decide +kernel
theorem fJ1_indexOf_4cfef_30 : fet (cdT 114) 30 = some (.iload_n 1, 0, 0) := by decide +kernel
theorem fJ1_indexOf_4cfef_31 : fet (cdT 114) 31 = some (.iload_n 2, 0, 0) := by decide +kernel
theorem fJ1_indexOf_4cfef_32 : fet (cdT 114) 32 = some (.iload_n 3, 0, 0) := by decide +kernel
theorem fJ1_indexOf_4cfef_33 : fet (cdT 114) 33 = some (.invokestatic 95, 115, 1) := by decide +kernel
theorem fJ1_indexOf_4cfef_36 : fet (cdT 114) 36 = some (.ireturn, 0, 0) := by decide +kernel
theorem fJ1_indexOfChar_4cfef_0 : fet (cdT 115) 0 = some (.iload_n 1, 0, 0) := by decide +kernel
theorem fJ1_indexOfChar_4cfef_1 : fet (cdT 115) 1 = some (.i2b, 0, 0) := by decide +kernel
theorem fJ1_indexOfChar_4cfef_2 : fet (cdT 115) 2 = some (.istore 4, 0, 0) := by decide +kernel
theorem fJ1_indexOfChar_4cfef_4 : fet (cdT 115) 4 = some (.iload_n 2, 0, 0) := by decide +kernel
theorem fJ1_indexOfChar_4cfef_5 : fet (cdT 115) 5 = some (.istore 5, 0, 0) := by decide +kernel
theorem fJ1_indexOfChar_4cfef_7 : fet (cdT 115) 7 = some (.iload 5, 0, 0) := by decide +kernel
theorem fJ1_indexOfChar_4cfef_9 : fet (cdT 115) 9 = some (.iload_n 3, 0, 0) := by decide +kernel
theorem fJ1_indexOfChar_4cfef_10 : fet (cdT 115) 10 = some (.if_icmp .ge 21, 0, 0) := by decide +kernel
theorem fJ1_indexOfChar_4cfef_13 : fet (cdT 115) 13 = some (.aload_n 0, 0, 0) := by decide +kernel
theorem fJ1_indexOfChar_4cfef_14 : fet (cdT 115) 14 = some (.iload 5, 0, 0) := by decide +kernel
theorem fJ1_indexOfChar_4cfef_16 : fet (cdT 115) 16 = some (.baload, 0, 0) := by decide +kernel
theorem fJ1_indexOfChar_4cfef_17 : fet (cdT 115) 17 = some (.iload 4, 0, 0) := by decide +kernel
theorem fJ1_indexOfChar_4cfef_19 : fet (cdT 115) 19 = some (.if_icmp .ne 6, 0, 0) := by decide +kernel
theorem fJ1_indexOfChar_4cfef_22 : fet (cdT 115) 22 = some (.iload 5, 0, 0) := by decide +kernel
theorem fJ1_indexOfChar_4cfef_24 : fet (cdT 115) 24 = some (.ireturn, 0, 0) := by decide +kernel
theorem fJ1_indexOfChar_4cfef_25 : fet (cdT 115) 25 = some (.iinc 5 1, 0, 0) := by decide +kernel
theorem fJ1_indexOfChar_4cfef_28 : fet (cdT 115) 28 = some (.goto (-21), 0, 0) := by decide +kernel
theorem fJ1_indexOfChar_4cfef_31 : fet (cdT 115) 31 = some (.iconst (-1), 0, 0) := by decide +kernel
theorem fJ1_indexOfChar_4cfef_32 : fet (cdT 115) 32 = some (.ireturn, 0, 0) := by decide +kernel
theorem fJ3_checkIndex_8e157_0 : fet (cdT 116) 0 = some (.iload_n 0, 0, 0) := by decide +kernel
theorem fJ3_checkIndex_8e157_1 : fet (cdT 116) 1 = some (.ifCond .lt 8, 0, 0) := by decide +kernel
theorem fJ3_checkIndex_8e157_4 : fet (cdT 116) 4 = some (.iload_n 0, 0, 0) := by decide +kernel
theorem fJ3_checkIndex_8e157_5 : fet (cdT 116) 5 = some (.iload_n 1, 0, 0) := by decide +kernel
theorem fJ3_checkIndex_8e157_6 : fet (cdT 116) 6 = some (.if_icmp .lt 10, 0, 0) := by decide +kernel
theorem fJ3_checkIndex_8e157_9 : fet (cdT 116) 9 = some (.aload_n 2, 0, 0) := by decide +kernel
theorem fJ3_checkIndex_8e157_10 : fet (cdT 116) 10 = some (.iload_n 0, 0, 0) := by decide +kernel
theorem fJ3_checkIndex_8e157_11 : fet (cdT 116) 11 = some (.iload_n 1, 0, 0) := by decide +kernel
theorem fJ3_checkIndex_8e157_16 : fet (cdT 116) 16 = some (.iload_n 0, 0, 0) := by decide +kernel
theorem fJ3_checkIndex_8e157_17 : fet (cdT 116) 17 = some (.ireturn, 0, 0) := by decide +kernel
theorem fL_cell_0 : fet (cdT 117) 0 = some (.ldc 7, 1, 69069) := by decide +kernel
theorem fL_cell_2 : fet (cdT 117) 2 = some (.iload_n 1, 0, 0) := by decide +kernel
theorem fL_cell_3 : fet (cdT 117) 3 = some (.aload_n 0, 0, 0) := by decide +kernel
theorem fL_cell_4 : fet (cdT 117) 4 = some (.arraylength, 0, 0) := by decide +kernel
theorem fL_cell_5 : fet (cdT 117) 5 = some (.if_icmp .ge 9, 0, 0) := by decide +kernel
theorem fL_cell_8 : fet (cdT 117) 8 = some (.aload_n 0, 0, 0) := by decide +kernel
theorem fL_cell_9 : fet (cdT 117) 9 = some (.iload_n 1, 0, 0) := by decide +kernel
theorem fL_cell_10 : fet (cdT 117) 10 = some (.iaload, 0, 0) := by decide +kernel
theorem fL_cell_11 : fet (cdT 117) 11 = some (.goto 4, 0, 0) := by decide +kernel
theorem fL_cell_14 : fet (cdT 117) 14 = some (.iconst 0, 0, 0) := by decide +kernel
theorem fL_cell_15 : fet (cdT 117) 15 = some (.sipush 1009, 0, 0) := by decide +kernel
theorem fL_cell_18 : fet (cdT 117) 18 = some (.iload_n 1, 0, 0) := by decide +kernel
theorem fL_cell_19 : fet (cdT 117) 19 = some (.imul, 0, 0) := by decide +kernel
theorem fL_cell_20 : fet (cdT 117) 20 = some (.iadd, 0, 0) := by decide +kernel
theorem fL_cell_21 : fet (cdT 117) 21 = some (.imul, 0, 0) := by decide +kernel
theorem fL_cell_22 : fet (cdT 117) 22 = some (.sipush 12345, 0, 0) := by decide +kernel
theorem fL_cell_25 : fet (cdT 117) 25 = some (.iadd, 0, 0) := by decide +kernel
theorem fL_cell_26 : fet (cdT 117) 26 = some (.istore_n 2, 0, 0) := by decide +kernel
theorem fL_cell_27 : fet (cdT 117) 27 = some (.iload_n 2, 0, 0) := by decide +kernel
theorem fL_cell_28 : fet (cdT 117) 28 = some (.iload_n 2, 0, 0) := by decide +kernel
theorem fL_cell_29 : fet (cdT 117) 29 = some (.bipush 13, 0, 0) := by decide +kernel
theorem fL_cell_31 : fet (cdT 117) 31 = some (.iushr, 0, 0) := by decide +kernel
theorem fL_cell_32 : fet (cdT 117) 32 = some (.ixor, 0, 0) := by decide +kernel
theorem fL_cell_33 : fet (cdT 117) 33 = some (.ldc 8, 1, 1103515245) := by decide +kernel
theorem fL_cell_35 : fet (cdT 117) 35 = some (.imul, 0, 0) := by decide +kernel
theorem fL_cell_36 : fet (cdT 117) 36 = some (.istore_n 2, 0, 0) := by decide +kernel
theorem fL_cell_37 : fet (cdT 117) 37 = some (.iload_n 2, 0, 0) := by decide +kernel
theorem fL_cell_38 : fet (cdT 117) 38 = some (.iload_n 2, 0, 0) := by decide +kernel
theorem fL_cell_39 : fet (cdT 117) 39 = some (.bipush 16, 0, 0) := by decide +kernel
theorem fL_cell_41 : fet (cdT 117) 41 = some (.iushr, 0, 0) := by decide +kernel
theorem fL_cell_42 : fet (cdT 117) 42 = some (.ixor, 0, 0) := by decide +kernel
theorem fL_cell_43 : fet (cdT 117) 43 = some (.ireturn, 0, 0) := by decide +kernel
theorem fL_pick_0 : fet (cdT 118) 0 = some (.aload_n 0, 0, 0) := by decide +kernel
theorem fL_pick_1 : fet (cdT 118) 1 = some (.iload_n 1, 0, 0) := by decide +kernel
theorem fL_pick_2 : fet (cdT 118) 2 = some (.invokestatic 9, 117, 1) := by decide +kernel
theorem fL_pick_5 : fet (cdT 118) 5 = some (.bipush 8, 0, 0) := by decide +kernel
theorem fL_pick_7 : fet (cdT 118) 7 = some (.iushr, 0, 0) := by decide +kernel
theorem fL_pick_8 : fet (cdT 118) 8 = some (.iload_n 2, 0, 0) := by decide +kernel
theorem fL_pick_9 : fet (cdT 118) 9 = some (.irem, 0, 0) := by decide +kernel
theorem fL_pick_10 : fet (cdT 118) 10 = some (.ireturn, 0, 0) := by decide +kernel
theorem fL_told_0 : fet (cdT 119) 0 = some (.iload_n 0, 0, 0) := by decide +kernel
theorem fL_told_1 : fet (cdT 119) 1 = some (.ifCond .eq 7, 0, 0) := by decide +kernel
theorem fL_told_4 : fet (cdT 119) 4 = some (.iconst 1, 0, 0) := by decide +kernel
theorem fL_told_5 : fet (cdT 119) 5 = some (.goto 4, 0, 0) := by decide +kernel
theorem fL_told_8 : fet (cdT 119) 8 = some (.iconst 0, 0, 0) := by decide +kernel
theorem fL_told_9 : fet (cdT 119) 9 = some (.ireturn, 0, 0) := by decide +kernel
theorem fL_plain_0 : fet (cdT 120) 0 = some (.iload_n 1, 0, 0) := by decide +kernel
theorem fL_plain_1 : fet (cdT 120) 1 = some (.tableswitch 330 0 25 #[119, 131, 141, 146, 158, 182, 187, 206, 213, 220, 226, 233, 239, 245, 251, 260, 267, 273, 279, 285, 291, 300, 306, 312, 318, 324], 0, 0) := by decide +kernel
theorem fL_plain_120 : fet (cdT 120) 120 = some (.aload_n 0, 0, 0) := by decide +kernel
theorem fL_plain_121 : fet (cdT 120) 121 = some (.iload_n 2, 0, 0) := by decide +kernel
theorem fL_plain_122 : fet (cdT 120) 122 = some (.iload_n 3, 0, 0) := by decide +kernel
theorem fL_plain_123 : fet (cdT 120) 123 = some (.i2c, 0, 0) := by decide +kernel
theorem fL_plain_124 : fet (cdT 120) 124 = some (.iload 4, 0, 0) := by decide +kernel
theorem fL_plain_126 : fet (cdT 120) 126 = some (.iload 5, 0, 0) := by decide +kernel
theorem fL_plain_128 : fet (cdT 120) 128 = some (.invokevirtual 15, 36, 0) := by decide +kernel
theorem fL_plain_131 : fet (cdT 120) 131 = some (.ireturn, 0, 0) := by decide +kernel
theorem fL_plain_132 : fet (cdT 120) 132 = some (.aload_n 0, 0, 0) := by decide +kernel
theorem fL_plain_133 : fet (cdT 120) 133 = some (.iload_n 2, 0, 0) := by decide +kernel
theorem fL_plain_134 : fet (cdT 120) 134 = some (.iload_n 3, 0, 0) := by decide +kernel
theorem fL_plain_135 : fet (cdT 120) 135 = some (.i2c, 0, 0) := by decide +kernel
theorem fL_plain_136 : fet (cdT 120) 136 = some (.iload 4, 0, 0) := by decide +kernel
theorem fL_plain_138 : fet (cdT 120) 138 = some (.invokevirtual 21, 37, 0) := by decide +kernel
theorem fL_plain_141 : fet (cdT 120) 141 = some (.ireturn, 0, 0) := by decide +kernel
theorem fL_plain_142 : fet (cdT 120) 142 = some (.aload_n 0, 0, 0) := by decide +kernel
theorem fL_plain_143 : fet (cdT 120) 143 = some (.invokevirtual 25, 38, 0) := by decide +kernel
theorem fL_plain_146 : fet (cdT 120) 146 = some (.ireturn, 0, 0) := by decide +kernel
theorem fL_plain_147 : fet (cdT 120) 147 = some (.aload_n 0, 0, 0) := by decide +kernel
theorem fL_plain_148 : fet (cdT 120) 148 = some (.iload_n 2, 0, 0) := by decide +kernel
theorem fL_plain_149 : fet (cdT 120) 149 = some (.iload_n 3, 0, 0) := by decide +kernel
theorem fL_plain_150 : fet (cdT 120) 150 = some (.i2c, 0, 0) := by decide +kernel
theorem fL_plain_151 : fet (cdT 120) 151 = some (.iload 4, 0, 0) := by decide +kernel
theorem fL_plain_153 : fet (cdT 120) 153 = some (.iload 5, 0, 0) := by decide +kernel
theorem fL_plain_155 : fet (cdT 120) 155 = some (.invokevirtual 29, 39, 0) := by decide +kernel
theorem fL_plain_158 : fet (cdT 120) 158 = some (.ireturn, 0, 0) := by decide +kernel
theorem fL_plain_159 : fet (cdT 120) 159 = some (.aload_n 0, 0, 0) := by decide +kernel
theorem fL_plain_160 : fet (cdT 120) 160 = some (.iload_n 2, 0, 0) := by decide +kernel
theorem fL_plain_161 : fet (cdT 120) 161 = some (.iload_n 3, 0, 0) := by decide +kernel
theorem fL_plain_162 : fet (cdT 120) 162 = some (.iload 4, 0, 0) := by decide +kernel
theorem fL_plain_164 : fet (cdT 120) 164 = some (.iload 5, 0, 0) := by decide +kernel
theorem fL_plain_166 : fet (cdT 120) 166 = some (.iload 6, 0, 0) := by decide +kernel
theorem fL_plain_168 : fet (cdT 120) 168 = some (.iload 7, 0, 0) := by decide +kernel
theorem fL_plain_170 : fet (cdT 120) 170 = some (.iconst 1, 0, 0) := by decide +kernel
theorem fL_plain_171 : fet (cdT 120) 171 = some (.if_icmp .ne 7, 0, 0) := by decide +kernel
theorem fL_plain_174 : fet (cdT 120) 174 = some (.iconst 1, 0, 0) := by decide +kernel
theorem fL_plain_175 : fet (cdT 120) 175 = some (.goto 4, 0, 0) := by decide +kernel
theorem fL_plain_178 : fet (cdT 120) 178 = some (.iconst 0, 0, 0) := by decide +kernel
theorem fL_plain_179 : fet (cdT 120) 179 = some (.invokevirtual 32, 40, 0) := by decide +kernel
theorem fL_plain_182 : fet (cdT 120) 182 = some (.ireturn, 0, 0) := by decide +kernel
theorem fL_plain_183 : fet (cdT 120) 183 = some (.aload_n 0, 0, 0) := by decide +kernel
theorem fL_plain_184 : fet (cdT 120) 184 = some (.invokevirtual 36, 42, 0) := by decide +kernel
theorem fL_plain_187 : fet (cdT 120) 187 = some (.ireturn, 0, 0) := by decide +kernel
theorem fL_plain_188 : fet (cdT 120) 188 = some (.aload_n 0, 0, 0) := by decide +kernel
theorem fL_plain_189 : fet (cdT 120) 189 = some (.iload_n 2, 0, 0) := by decide +kernel
theorem fL_plain_190 : fet (cdT 120) 190 = some (.iload_n 3, 0, 0) := by decide +kernel
theorem fL_plain_191 : fet (cdT 120) 191 = some (.iconst 1, 0, 0) := by decide +kernel
theorem fL_plain_192 : fet (cdT 120) 192 = some (.if_icmp .ne 7, 0, 0) := by decide +kernel
theorem fL_plain_195 : fet (cdT 120) 195 = some (.iconst 1, 0, 0) := by decide +kernel
theorem fL_plain_196 : fet (cdT 120) 196 = some (.goto 4, 0, 0) := by decide +kernel
theorem fL_plain_199 : fet (cdT 120) 199 = some (.iconst 0, 0, 0) := by decide +kernel
theorem fL_plain_200 : fet (cdT 120) 200 = some (.invokevirtual 39, 43, 0) := by decide +kernel
theorem fL_plain_203 : fet (cdT 120) 203 = some (.invokestatic 43, 119, 1) := by decide +kernel
theorem fL_plain_206 : fet (cdT 120) 206 = some (.ireturn, 0, 0) := by decide +kernel
theorem fL_plain_207 : fet (cdT 120) 207 = some (.aload_n 0, 0, 0) := by decide +kernel
theorem fL_plain_208 : fet (cdT 120) 208 = some (.iload_n 2, 0, 0) := by decide +kernel
theorem fL_plain_209 : fet (cdT 120) 209 = some (.iload_n 3, 0, 0) := by decide +kernel
theorem fL_plain_210 : fet (cdT 120) 210 = some (.invokevirtual 47, 44, 0) := by decide +kernel
theorem fL_plain_213 : fet (cdT 120) 213 = some (.ireturn, 0, 0) := by decide +kernel
theorem fL_plain_214 : fet (cdT 120) 214 = some (.aload_n 0, 0, 0) := by decide +kernel
theorem fL_plain_215 : fet (cdT 120) 215 = some (.iload_n 2, 0, 0) := by decide +kernel
theorem fL_plain_216 : fet (cdT 120) 216 = some (.iload_n 3, 0, 0) := by decide +kernel
theorem fL_plain_217 : fet (cdT 120) 217 = some (.invokevirtual 51, 45, 0) := by decide +kernel
theorem fL_plain_220 : fet (cdT 120) 220 = some (.ireturn, 0, 0) := by decide +kernel
theorem fL_plain_221 : fet (cdT 120) 221 = some (.aload_n 0, 0, 0) := by decide +kernel
theorem fL_plain_222 : fet (cdT 120) 222 = some (.iload_n 2, 0, 0) := by decide +kernel
theorem fL_plain_223 : fet (cdT 120) 223 = some (.invokevirtual 54, 46, 0) := by decide +kernel
theorem fL_plain_226 : fet (cdT 120) 226 = some (.ireturn, 0, 0) := by decide +kernel
theorem fL_plain_227 : fet (cdT 120) 227 = some (.aload_n 0, 0, 0) := by decide +kernel
theorem fL_plain_228 : fet (cdT 120) 228 = some (.iload_n 2, 0, 0) := by decide +kernel
theorem fL_plain_229 : fet (cdT 120) 229 = some (.iload_n 3, 0, 0) := by decide +kernel
theorem fL_plain_230 : fet (cdT 120) 230 = some (.invokevirtual 58, 47, 0) := by decide +kernel
theorem fL_plain_233 : fet (cdT 120) 233 = some (.ireturn, 0, 0) := by decide +kernel
theorem fL_plain_234 : fet (cdT 120) 234 = some (.aload_n 0, 0, 0) := by decide +kernel
theorem fL_plain_235 : fet (cdT 120) 235 = some (.iload_n 2, 0, 0) := by decide +kernel
theorem fL_plain_236 : fet (cdT 120) 236 = some (.invokevirtual 61, 48, 0) := by decide +kernel
theorem fL_plain_239 : fet (cdT 120) 239 = some (.ireturn, 0, 0) := by decide +kernel
theorem fL_plain_240 : fet (cdT 120) 240 = some (.aload_n 0, 0, 0) := by decide +kernel
theorem fL_plain_241 : fet (cdT 120) 241 = some (.iload_n 2, 0, 0) := by decide +kernel
theorem fL_plain_242 : fet (cdT 120) 242 = some (.invokevirtual 64, 49, 0) := by decide +kernel
theorem fL_plain_245 : fet (cdT 120) 245 = some (.ireturn, 0, 0) := by decide +kernel
theorem fL_plain_246 : fet (cdT 120) 246 = some (.aload_n 0, 0, 0) := by decide +kernel
theorem fL_plain_247 : fet (cdT 120) 247 = some (.iload_n 2, 0, 0) := by decide +kernel
theorem fL_plain_248 : fet (cdT 120) 248 = some (.invokevirtual 67, 50, 0) := by decide +kernel
theorem fL_plain_251 : fet (cdT 120) 251 = some (.ireturn, 0, 0) := by decide +kernel
theorem fL_plain_252 : fet (cdT 120) 252 = some (.aload_n 0, 0, 0) := by decide +kernel
theorem fL_plain_253 : fet (cdT 120) 253 = some (.iload_n 2, 0, 0) := by decide +kernel
theorem fL_plain_254 : fet (cdT 120) 254 = some (.invokevirtual 70, 51, 0) := by decide +kernel
theorem fL_plain_257 : fet (cdT 120) 257 = some (.invokestatic 43, 119, 1) := by decide +kernel
theorem fL_plain_260 : fet (cdT 120) 260 = some (.ireturn, 0, 0) := by decide +kernel
theorem fL_plain_261 : fet (cdT 120) 261 = some (.aload_n 0, 0, 0) := by decide +kernel
theorem fL_plain_262 : fet (cdT 120) 262 = some (.iload_n 2, 0, 0) := by decide +kernel
theorem fL_plain_263 : fet (cdT 120) 263 = some (.iload_n 3, 0, 0) := by decide +kernel
theorem fL_plain_264 : fet (cdT 120) 264 = some (.invokevirtual 74, 52, 0) := by decide +kernel
theorem fL_plain_267 : fet (cdT 120) 267 = some (.ireturn, 0, 0) := by decide +kernel
theorem fL_plain_268 : fet (cdT 120) 268 = some (.aload_n 0, 0, 0) := by decide +kernel
theorem fL_plain_269 : fet (cdT 120) 269 = some (.iload_n 2, 0, 0) := by decide +kernel
theorem fL_plain_270 : fet (cdT 120) 270 = some (.invokevirtual 77, 56, 0) := by decide +kernel
theorem fL_plain_273 : fet (cdT 120) 273 = some (.ireturn, 0, 0) := by decide +kernel
theorem fL_plain_274 : fet (cdT 120) 274 = some (.aload_n 0, 0, 0) := by decide +kernel
theorem fL_plain_275 : fet (cdT 120) 275 = some (.iload_n 2, 0, 0) := by decide +kernel
theorem fL_plain_276 : fet (cdT 120) 276 = some (.invokevirtual 80, 57, 0) := by decide +kernel
theorem fL_plain_279 : fet (cdT 120) 279 = some (.ireturn, 0, 0) := by decide +kernel
theorem fL_plain_280 : fet (cdT 120) 280 = some (.aload_n 0, 0, 0) := by decide +kernel
theorem fL_plain_281 : fet (cdT 120) 281 = some (.iload_n 2, 0, 0) := by decide +kernel
theorem fL_plain_282 : fet (cdT 120) 282 = some (.invokevirtual 83, 58, 0) := by decide +kernel
theorem fL_plain_285 : fet (cdT 120) 285 = some (.ireturn, 0, 0) := by decide +kernel
theorem fL_plain_286 : fet (cdT 120) 286 = some (.aload_n 0, 0, 0) := by decide +kernel
theorem fL_plain_287 : fet (cdT 120) 287 = some (.iload_n 2, 0, 0) := by decide +kernel
theorem fL_plain_288 : fet (cdT 120) 288 = some (.invokevirtual 86, 59, 0) := by decide +kernel
theorem fL_plain_291 : fet (cdT 120) 291 = some (.ireturn, 0, 0) := by decide +kernel
theorem fL_plain_292 : fet (cdT 120) 292 = some (.aload_n 0, 0, 0) := by decide +kernel
theorem fL_plain_293 : fet (cdT 120) 293 = some (.iload_n 2, 0, 0) := by decide +kernel
theorem fL_plain_294 : fet (cdT 120) 294 = some (.invokevirtual 89, 60, 0) := by decide +kernel
theorem fL_plain_297 : fet (cdT 120) 297 = some (.invokestatic 43, 119, 1) := by decide +kernel
theorem fL_plain_300 : fet (cdT 120) 300 = some (.ireturn, 0, 0) := by decide +kernel
theorem fL_plain_301 : fet (cdT 120) 301 = some (.aload_n 0, 0, 0) := by decide +kernel
theorem fL_plain_302 : fet (cdT 120) 302 = some (.iload_n 2, 0, 0) := by decide +kernel
theorem fL_plain_303 : fet (cdT 120) 303 = some (.invokevirtual 92, 61, 0) := by decide +kernel
theorem fL_plain_306 : fet (cdT 120) 306 = some (.ireturn, 0, 0) := by decide +kernel
theorem fL_plain_307 : fet (cdT 120) 307 = some (.aload_n 0, 0, 0) := by decide +kernel
theorem fL_plain_308 : fet (cdT 120) 308 = some (.iload_n 2, 0, 0) := by decide +kernel
theorem fL_plain_309 : fet (cdT 120) 309 = some (.invokevirtual 95, 62, 0) := by decide +kernel
theorem fL_plain_312 : fet (cdT 120) 312 = some (.ireturn, 0, 0) := by decide +kernel
theorem fL_plain_313 : fet (cdT 120) 313 = some (.aload_n 0, 0, 0) := by decide +kernel
theorem fL_plain_314 : fet (cdT 120) 314 = some (.iload_n 2, 0, 0) := by decide +kernel
theorem fL_plain_315 : fet (cdT 120) 315 = some (.invokevirtual 99, 64, 0) := by decide +kernel
theorem fL_plain_318 : fet (cdT 120) 318 = some (.ireturn, 0, 0) := by decide +kernel
theorem fL_plain_319 : fet (cdT 120) 319 = some (.aload_n 0, 0, 0) := by decide +kernel
theorem fL_plain_320 : fet (cdT 120) 320 = some (.iload_n 2, 0, 0) := by decide +kernel
theorem fL_plain_321 : fet (cdT 120) 321 = some (.invokevirtual 102, 66, 0) := by decide +kernel
theorem fL_plain_324 : fet (cdT 120) 324 = some (.ireturn, 0, 0) := by decide +kernel
theorem fL_plain_325 : fet (cdT 120) 325 = some (.aload_n 0, 0, 0) := by decide +kernel
theorem fL_plain_326 : fet (cdT 120) 326 = some (.iload_n 2, 0, 0) := by decide +kernel
theorem fL_plain_327 : fet (cdT 120) 327 = some (.invokevirtual 105, 67, 0) := by decide +kernel
theorem fL_plain_330 : fet (cdT 120) 330 = some (.ireturn, 0, 0) := by decide +kernel
theorem fL_plain_331 : fet (cdT 120) 331 = some (.aload_n 0, 0, 0) := by decide +kernel
theorem fL_plain_332 : fet (cdT 120) 332 = some (.iload_n 2, 0, 0) := by decide +kernel
theorem fL_plain_333 : fet (cdT 120) 333 = some (.invokevirtual 108, 71, 0) := by decide +kernel
theorem fL_plain_336 : fet (cdT 120) 336 = some (.ireturn, 0, 0) := by decide +kernel
theorem fL_ask_0 : fet (cdT 121) 0 = some (.aload_n 0, 0, 0) := by decide +kernel
theorem fL_ask_1 : fet (cdT 121) 1 = some (.iload_n 1, 0, 0) := by decide +kernel
theorem fL_ask_2 : fet (cdT 121) 2 = some (.iload_n 2, 0, 0) := by decide +kernel
theorem fL_ask_3 : fet (cdT 121) 3 = some (.iconst 0, 0, 0) := by decide +kernel
theorem fL_ask_4 : fet (cdT 121) 4 = some (.iconst 0, 0, 0) := by decide +kernel
theorem fL_ask_5 : fet (cdT 121) 5 = some (.iconst 0, 0, 0) := by decide +kernel
theorem fL_ask_6 : fet (cdT 121) 6 = some (.iconst 0, 0, 0) := by decide +kernel
theorem fL_ask_7 : fet (cdT 121) 7 = some (.iconst 0, 0, 0) := by decide +kernel
theorem fL_ask_8 : fet (cdT 121) 8 = some (.invokestatic 125, 200, 6) := by decide +kernel
theorem fL_ask_11 : fet (cdT 121) 11 = some (.ireturn, 0, 0) := by decide +kernel
theorem fL_input_0 : fet (cdT 122) 0 = some (.aload_n 0, 0, 0) := by decide +kernel
theorem fL_input_1 : fet (cdT 122) 1 = some (.iload_n 1, 0, 0) := by decide +kernel
theorem fL_input_2 : fet (cdT 122) 2 = some (.iload_n 2, 0, 0) := by decide +kernel
theorem fL_input_3 : fet (cdT 122) 3 = some (.iconst 1, 0, 0) := by decide +kernel
theorem fL_input_4 : fet (cdT 122) 4 = some (.if_icmp .ne 7, 0, 0) := by decide +kernel
theorem fL_input_7 : fet (cdT 122) 7 = some (.iconst 1, 0, 0) := by decide +kernel
theorem fL_input_8 : fet (cdT 122) 8 = some (.goto 4, 0, 0) := by decide +kernel
theorem fL_input_11 : fet (cdT 122) 11 = some (.iconst 0, 0, 0) := by decide +kernel
theorem fL_input_12 : fet (cdT 122) 12 = some (.invokevirtual 39, 43, 0) := by decide +kernel
theorem fL_input_15 : fet (cdT 122) 15 = some (.pop, 0, 0) := by decide +kernel
theorem fL_input_16 : fet (cdT 122) 16 = some (.return_, 0, 0) := by decide +kernel
theorem fL_build_0 : fet (cdT 123) 0 = some (.aload_n 0, 0, 0) := by decide +kernel
theorem fL_build_1 : fet (cdT 123) 1 = some (.invokevirtual 128, 41, 0) := by decide +kernel
theorem fL_build_4 : fet (cdT 123) 4 = some (.pop, 0, 0) := by decide +kernel
theorem fL_build_5 : fet (cdT 123) 5 = some (.iconst 2, 0, 0) := by decide +kernel
theorem fL_build_6 : fet (cdT 123) 6 = some (.aload_n 1, 0, 0) := by decide +kernel
theorem fL_build_7 : fet (cdT 123) 7 = some (.iload_n 2, 0, 0) := by decide +kernel
theorem fL_build_8 : fet (cdT 123) 8 = some (.bipush 8, 0, 0) := by decide +kernel
theorem fL_build_10 : fet (cdT 123) 10 = some (.invokestatic 131, 118, 1) := by decide +kernel
theorem fL_build_13 : fet (cdT 123) 13 = some (.iadd, 0, 0) := by decide +kernel
theorem fL_build_14 : fet (cdT 123) 14 = some (.istore_n 3, 0, 0) := by decide +kernel
theorem fL_build_15 : fet (cdT 123) 15 = some (.iconst 0, 0, 0) := by decide +kernel
theorem fL_build_16 : fet (cdT 123) 16 = some (.istore 4, 0, 0) := by decide +kernel
theorem fL_build_18 : fet (cdT 123) 18 = some (.iload 4, 0, 0) := by decide +kernel
theorem fL_build_20 : fet (cdT 123) 20 = some (.iload_n 3, 0, 0) := by decide +kernel
theorem fL_build_21 : fet (cdT 123) 21 = some (.if_icmp .ge 249, 0, 0) := by decide +kernel
theorem fL_build_24 : fet (cdT 123) 24 = some (.iload_n 2, 0, 0) := by decide +kernel
theorem fL_build_25 : fet (cdT 123) 25 = some (.iconst 1, 0, 0) := by decide +kernel
theorem fL_build_26 : fet (cdT 123) 26 = some (.iadd, 0, 0) := by decide +kernel
theorem fL_build_27 : fet (cdT 123) 27 = some (.bipush 12, 0, 0) := by decide +kernel
theorem fL_build_29 : fet (cdT 123) 29 = some (.iload 4, 0, 0) := by decide +kernel
theorem fL_build_31 : fet (cdT 123) 31 = some (.imul, 0, 0) := by decide +kernel
theorem fL_build_32 : fet (cdT 123) 32 = some (.iadd, 0, 0) := by decide +kernel
theorem fL_build_33 : fet (cdT 123) 33 = some (.istore 5, 0, 0) := by decide +kernel
theorem fL_build_35 : fet (cdT 123) 35 = some (.ldc 135, 2, 0) := by decide +kernel
theorem fL_build_37 : fet (cdT 123) 37 = some (.aload_n 1, 0, 0) := by decide +kernel
theorem fL_build_38 : fet (cdT 123) 38 = some (.iload 5, 0, 0) := by decide +kernel
theorem fL_build_40 : fet (cdT 123) 40 = some (.bipush 12, 0, 0) := by decide +kernel
theorem fL_build_42 : fet (cdT 123) 42 = some (.invokestatic 131, 118, 1) := by decide +kernel
theorem fL_build_45 : fet (cdT 123) 45 = some (.invokevirtual 137, 106, 0) := by decide +kernel
theorem fL_build_48 : fet (cdT 123) 48 = some (.istore 6, 0, 0) := by decide +kernel
theorem fL_build_50 : fet (cdT 123) 50 = some (.ldc 142, 2, 3) := by decide +kernel
theorem fL_build_52 : fet (cdT 123) 52 = some (.iload 6, 0, 0) := by decide +kernel
theorem fL_build_54 : fet (cdT 123) 54 = some (.invokevirtual 144, 107, 0) := by decide +kernel
theorem fL_build_57 : fet (cdT 123) 57 = some (.ifCond .lt 19, 0, 0) := by decide +kernel
theorem fL_build_60 : fet (cdT 123) 60 = some (.bipush 8, 0, 0) := by decide +kernel
theorem fL_build_62 : fet (cdT 123) 62 = some (.aload_n 1, 0, 0) := by decide +kernel
theorem fL_build_63 : fet (cdT 123) 63 = some (.iload 5, 0, 0) := by decide +kernel
theorem fL_build_65 : fet (cdT 123) 65 = some (.iconst 1, 0, 0) := by decide +kernel
theorem fL_build_66 : fet (cdT 123) 66 = some (.iadd, 0, 0) := by decide +kernel
theorem fL_build_67 : fet (cdT 123) 67 = some (.bipush 24, 0, 0) := by decide +kernel
theorem fL_build_69 : fet (cdT 123) 69 = some (.invokestatic 131, 118, 1) := by decide +kernel
theorem fL_build_72 : fet (cdT 123) 72 = some (.iadd, 0, 0) := by decide +kernel
theorem fL_build_73 : fet (cdT 123) 73 = some (.goto 13, 0, 0) := by decide +kernel
theorem fL_build_76 : fet (cdT 123) 76 = some (.aload_n 1, 0, 0) := by decide +kernel
theorem fL_build_77 : fet (cdT 123) 77 = some (.iload 5, 0, 0) := by decide +kernel
theorem fL_build_79 : fet (cdT 123) 79 = some (.iconst 1, 0, 0) := by decide +kernel
theorem fL_build_80 : fet (cdT 123) 80 = some (.iadd, 0, 0) := by decide +kernel
theorem fL_build_81 : fet (cdT 123) 81 = some (.bipush 8, 0, 0) := by decide +kernel
theorem fL_build_83 : fet (cdT 123) 83 = some (.invokestatic 131, 118, 1) := by decide +kernel
theorem fL_build_86 : fet (cdT 123) 86 = some (.istore 7, 0, 0) := by decide +kernel
theorem fL_build_88 : fet (cdT 123) 88 = some (.ldc 147, 2, 4) := by decide +kernel
theorem fL_build_90 : fet (cdT 123) 90 = some (.iload 6, 0, 0) := by decide +kernel
theorem fL_build_92 : fet (cdT 123) 92 = some (.invokevirtual 144, 107, 0) := by decide +kernel
theorem fL_build_95 : fet (cdT 123) 95 = some (.ifCond .lt 18, 0, 0) := by decide +kernel
theorem fL_build_98 : fet (cdT 123) 98 = some (.iconst 1, 0, 0) := by decide +kernel
theorem fL_build_99 : fet (cdT 123) 99 = some (.aload_n 1, 0, 0) := by decide +kernel
theorem fL_build_100 : fet (cdT 123) 100 = some (.iload 5, 0, 0) := by decide +kernel
theorem fL_build_102 : fet (cdT 123) 102 = some (.iconst 2, 0, 0) := by decide +kernel
theorem fL_build_103 : fet (cdT 123) 103 = some (.iadd, 0, 0) := by decide +kernel
theorem fL_build_104 : fet (cdT 123) 104 = some (.bipush 25, 0, 0) := by decide +kernel
theorem fL_build_106 : fet (cdT 123) 106 = some (.invokestatic 131, 118, 1) := by decide +kernel
theorem fL_build_109 : fet (cdT 123) 109 = some (.iadd, 0, 0) := by decide +kernel
theorem fL_build_110 : fet (cdT 123) 110 = some (.goto 56, 0, 0) := by decide +kernel
theorem fL_build_113 : fet (cdT 123) 113 = some (.iload 6, 0, 0) := by decide +kernel
theorem fL_build_115 : fet (cdT 123) 115 = some (.bipush 107, 0, 0) := by decide +kernel
theorem fL_build_117 : fet (cdT 123) 117 = some (.if_icmp .ne 18, 0, 0) := by decide +kernel
theorem fL_build_120 : fet (cdT 123) 120 = some (.aload_n 1, 0, 0) := by decide +kernel
theorem fL_build_121 : fet (cdT 123) 121 = some (.iload 5, 0, 0) := by decide +kernel
theorem fL_build_123 : fet (cdT 123) 123 = some (.iconst 2, 0, 0) := by decide +kernel
theorem fL_build_124 : fet (cdT 123) 124 = some (.iadd, 0, 0) := by decide +kernel
theorem fL_build_125 : fet (cdT 123) 125 = some (.bipush 9, 0, 0) := by decide +kernel
theorem fL_build_127 : fet (cdT 123) 127 = some (.invokestatic 131, 118, 1) := by decide +kernel
theorem fL_build_130 : fet (cdT 123) 130 = some (.iconst 4, 0, 0) := by decide +kernel
theorem fL_build_131 : fet (cdT 123) 131 = some (.isub, 0, 0) := by decide +kernel
theorem fL_build_132 : fet (cdT 123) 132 = some (.goto 34, 0, 0) := by decide +kernel
theorem fL_build_135 : fet (cdT 123) 135 = some (.iload 6, 0, 0) := by decide +kernel
theorem fL_build_137 : fet (cdT 123) 137 = some (.bipush 74, 0, 0) := by decide +kernel
theorem fL_build_139 : fet (cdT 123) 139 = some (.if_icmp .ne 17, 0, 0) := by decide +kernel
theorem fL_build_142 : fet (cdT 123) 142 = some (.aload_n 1, 0, 0) := by decide +kernel
theorem fL_build_143 : fet (cdT 123) 143 = some (.iload 5, 0, 0) := by decide +kernel
theorem fL_build_145 : fet (cdT 123) 145 = some (.iconst 2, 0, 0) := by decide +kernel
theorem fL_build_146 : fet (cdT 123) 146 = some (.iadd, 0, 0) := by decide +kernel
theorem fL_build_147 : fet (cdT 123) 147 = some (.iload_n 3, 0, 0) := by decide +kernel
theorem fL_build_148 : fet (cdT 123) 148 = some (.iconst 1, 0, 0) := by decide +kernel
theorem fL_build_149 : fet (cdT 123) 149 = some (.iadd, 0, 0) := by decide +kernel
theorem fL_build_150 : fet (cdT 123) 150 = some (.invokestatic 131, 118, 1) := by decide +kernel
theorem fL_build_153 : fet (cdT 123) 153 = some (.goto 13, 0, 0) := by decide +kernel
theorem fL_build_156 : fet (cdT 123) 156 = some (.aload_n 1, 0, 0) := by decide +kernel
theorem fL_build_157 : fet (cdT 123) 157 = some (.iload 5, 0, 0) := by decide +kernel
theorem fL_build_159 : fet (cdT 123) 159 = some (.iconst 2, 0, 0) := by decide +kernel
theorem fL_build_160 : fet (cdT 123) 160 = some (.iadd, 0, 0) := by decide +kernel
theorem fL_build_161 : fet (cdT 123) 161 = some (.bipush 8, 0, 0) := by decide +kernel
theorem fL_build_163 : fet (cdT 123) 163 = some (.invokestatic 131, 118, 1) := by decide +kernel
theorem fL_build_166 : fet (cdT 123) 166 = some (.istore 8, 0, 0) := by decide +kernel
theorem fL_build_168 : fet (cdT 123) 168 = some (.aload_n 0, 0, 0) := by decide +kernel
theorem fL_build_169 : fet (cdT 123) 169 = some (.iconst 0, 0, 0) := by decide +kernel
theorem fL_build_170 : fet (cdT 123) 170 = some (.aload_n 1, 0, 0) := by decide +kernel
theorem fL_build_171 : fet (cdT 123) 171 = some (.iload 5, 0, 0) := by decide +kernel
theorem fL_build_173 : fet (cdT 123) 173 = some (.iconst 3, 0, 0) := by decide +kernel
theorem fL_build_174 : fet (cdT 123) 174 = some (.iadd, 0, 0) := by decide +kernel
theorem fL_build_175 : fet (cdT 123) 175 = some (.iconst 3, 0, 0) := by decide +kernel
theorem fL_build_176 : fet (cdT 123) 176 = some (.invokestatic 131, 118, 1) := by decide +kernel
theorem fL_build_179 : fet (cdT 123) 179 = some (.ifCond .ne 7, 0, 0) := by decide +kernel
theorem fL_build_182 : fet (cdT 123) 182 = some (.iconst 1, 0, 0) := by decide +kernel
theorem fL_build_183 : fet (cdT 123) 183 = some (.goto 4, 0, 0) := by decide +kernel
theorem fL_build_186 : fet (cdT 123) 186 = some (.iconst 0, 0, 0) := by decide +kernel
theorem fL_build_187 : fet (cdT 123) 187 = some (.iload 6, 0, 0) := by decide +kernel
theorem fL_build_189 : fet (cdT 123) 189 = some (.iload 7, 0, 0) := by decide +kernel
theorem fL_build_191 : fet (cdT 123) 191 = some (.iload 8, 0, 0) := by decide +kernel
theorem fL_build_193 : fet (cdT 123) 193 = some (.iconst 0, 0, 0) := by decide +kernel
theorem fL_build_194 : fet (cdT 123) 194 = some (.iconst 0, 0, 0) := by decide +kernel
theorem fL_build_195 : fet (cdT 123) 195 = some (.invokestatic 125, 200, 6) := by decide +kernel
theorem fL_build_198 : fet (cdT 123) 198 = some (.istore 9, 0, 0) := by decide +kernel
theorem fL_build_200 : fet (cdT 123) 200 = some (.aload_n 1, 0, 0) := by decide +kernel
theorem fL_build_201 : fet (cdT 123) 201 = some (.iload 5, 0, 0) := by decide +kernel
theorem fL_build_203 : fet (cdT 123) 203 = some (.iconst 4, 0, 0) := by decide +kernel
theorem fL_build_204 : fet (cdT 123) 204 = some (.iadd, 0, 0) := by decide +kernel
theorem fL_build_205 : fet (cdT 123) 205 = some (.iconst 3, 0, 0) := by decide +kernel
theorem fL_build_206 : fet (cdT 123) 206 = some (.invokestatic 131, 118, 1) := by decide +kernel
theorem fL_build_209 : fet (cdT 123) 209 = some (.istore 10, 0, 0) := by decide +kernel
theorem fL_build_211 : fet (cdT 123) 211 = some (.iload 10, 0, 0) := by decide +kernel
theorem fL_build_213 : fet (cdT 123) 213 = some (.ifCond .le 51, 0, 0) := by decide +kernel
theorem fL_build_216 : fet (cdT 123) 216 = some (.aload_n 0, 0, 0) := by decide +kernel
theorem fL_build_217 : fet (cdT 123) 217 = some (.iconst 1, 0, 0) := by decide +kernel
theorem fL_build_218 : fet (cdT 123) 218 = some (.iload 9, 0, 0) := by decide +kernel
theorem fL_build_220 : fet (cdT 123) 220 = some (.ldc 149, 2, 1) := by decide +kernel
theorem fL_build_222 : fet (cdT 123) 222 = some (.aload_n 1, 0, 0) := by decide +kernel
theorem fL_build_223 : fet (cdT 123) 223 = some (.iload 5, 0, 0) := by decide +kernel
theorem fL_build_225 : fet (cdT 123) 225 = some (.iconst 4, 0, 0) := by decide +kernel
theorem fL_build_226 : fet (cdT 123) 226 = some (.iadd, 0, 0) := by decide +kernel
theorem fL_build_227 : fet (cdT 123) 227 = some (.iload 10, 0, 0) := by decide +kernel
theorem fL_build_229 : fet (cdT 123) 229 = some (.iadd, 0, 0) := by decide +kernel
theorem fL_build_230 : fet (cdT 123) 230 = some (.iconst 4, 0, 0) := by decide +kernel
theorem fL_build_231 : fet (cdT 123) 231 = some (.invokestatic 131, 118, 1) := by decide +kernel
theorem fL_build_234 : fet (cdT 123) 234 = some (.invokevirtual 137, 106, 0) := by decide +kernel
theorem fL_build_237 : fet (cdT 123) 237 = some (.aload_n 1, 0, 0) := by decide +kernel
theorem fL_build_238 : fet (cdT 123) 238 = some (.iload 5, 0, 0) := by decide +kernel
theorem fL_build_240 : fet (cdT 123) 240 = some (.bipush 6, 0, 0) := by decide +kernel
theorem fL_build_242 : fet (cdT 123) 242 = some (.iadd, 0, 0) := by decide +kernel
theorem fL_build_243 : fet (cdT 123) 243 = some (.iload 10, 0, 0) := by decide +kernel
theorem fL_build_245 : fet (cdT 123) 245 = some (.iadd, 0, 0) := by decide +kernel
theorem fL_build_246 : fet (cdT 123) 246 = some (.bipush 32, 0, 0) := by decide +kernel
theorem fL_build_248 : fet (cdT 123) 248 = some (.invokestatic 131, 118, 1) := by decide +kernel
theorem fL_build_251 : fet (cdT 123) 251 = some (.iconst 0, 0, 0) := by decide +kernel
theorem fL_build_252 : fet (cdT 123) 252 = some (.iconst 0, 0, 0) := by decide +kernel
theorem fL_build_253 : fet (cdT 123) 253 = some (.iconst 0, 0, 0) := by decide +kernel
theorem fL_build_254 : fet (cdT 123) 254 = some (.invokestatic 125, 200, 6) := by decide +kernel
theorem fL_build_257 : fet (cdT 123) 257 = some (.pop, 0, 0) := by decide +kernel
theorem fL_build_258 : fet (cdT 123) 258 = some (.iinc 10 (-1), 0, 0) := by decide +kernel
theorem fL_build_261 : fet (cdT 123) 261 = some (.goto (-50), 0, 0) := by decide +kernel
theorem fL_build_264 : fet (cdT 123) 264 = some (.iinc 4 1, 0, 0) := by decide +kernel
theorem fL_build_267 : fet (cdT 123) 267 = some (.goto (-249), 0, 0) := by decide +kernel
theorem fL_build_270 : fet (cdT 123) 270 = some (.iconst 1, 0, 0) := by decide +kernel
theorem fL_build_271 : fet (cdT 123) 271 = some (.aload_n 1, 0, 0) := by decide +kernel
theorem fL_build_272 : fet (cdT 123) 272 = some (.iload_n 2, 0, 0) := by decide +kernel
theorem fL_build_273 : fet (cdT 123) 273 = some (.sipush 130, 0, 0) := by decide +kernel
theorem fL_build_276 : fet (cdT 123) 276 = some (.iadd, 0, 0) := by decide +kernel
theorem fL_build_277 : fet (cdT 123) 277 = some (.iconst 5, 0, 0) := by decide +kernel
theorem fL_build_278 : fet (cdT 123) 278 = some (.invokestatic 131, 118, 1) := by decide +kernel
theorem fL_build_281 : fet (cdT 123) 281 = some (.iadd, 0, 0) := by decide +kernel
theorem fL_build_282 : fet (cdT 123) 282 = some (.istore 4, 0, 0) := by decide +kernel
theorem fL_build_284 : fet (cdT 123) 284 = some (.iconst 0, 0, 0) := by decide +kernel
theorem fL_build_285 : fet (cdT 123) 285 = some (.istore 5, 0, 0) := by decide +kernel
theorem fL_build_287 : fet (cdT 123) 287 = some (.iload 5, 0, 0) := by decide +kernel
theorem fL_build_289 : fet (cdT 123) 289 = some (.iload 4, 0, 0) := by decide +kernel
theorem fL_build_291 : fet (cdT 123) 291 = some (.if_icmp .ge 75, 0, 0) := by decide +kernel
theorem fL_build_294 : fet (cdT 123) 294 = some (.aload_n 0, 0, 0) := by decide +kernel
theorem fL_build_295 : fet (cdT 123) 295 = some (.invokevirtual 25, 38, 0) := by decide +kernel
theorem fL_build_298 : fet (cdT 123) 298 = some (.pop, 0, 0) := by decide +kernel
theorem fL_build_299 : fet (cdT 123) 299 = some (.aload_n 0, 0, 0) := by decide +kernel
theorem fL_build_300 : fet (cdT 123) 300 = some (.iconst 3, 0, 0) := by decide +kernel
theorem fL_build_301 : fet (cdT 123) 301 = some (.iload 5, 0, 0) := by decide +kernel
theorem fL_build_303 : fet (cdT 123) 303 = some (.ldc 151, 2, 2) := by decide +kernel
theorem fL_build_305 : fet (cdT 123) 305 = some (.aload_n 1, 0, 0) := by decide +kernel
theorem fL_build_306 : fet (cdT 123) 306 = some (.iload_n 2, 0, 0) := by decide +kernel
theorem fL_build_307 : fet (cdT 123) 307 = some (.sipush 131, 0, 0) := by decide +kernel
theorem fL_build_310 : fet (cdT 123) 310 = some (.iadd, 0, 0) := by decide +kernel
theorem fL_build_311 : fet (cdT 123) 311 = some (.iload 5, 0, 0) := by decide +kernel
theorem fL_build_313 : fet (cdT 123) 313 = some (.iadd, 0, 0) := by decide +kernel
theorem fL_build_314 : fet (cdT 123) 314 = some (.iconst 5, 0, 0) := by decide +kernel
theorem fL_build_315 : fet (cdT 123) 315 = some (.invokestatic 131, 118, 1) := by decide +kernel
theorem fL_build_318 : fet (cdT 123) 318 = some (.invokevirtual 137, 106, 0) := by decide +kernel
theorem fL_build_321 : fet (cdT 123) 321 = some (.bipush 8, 0, 0) := by decide +kernel
theorem fL_build_323 : fet (cdT 123) 323 = some (.aload_n 1, 0, 0) := by decide +kernel
theorem fL_build_324 : fet (cdT 123) 324 = some (.iload_n 2, 0, 0) := by decide +kernel
theorem fL_build_325 : fet (cdT 123) 325 = some (.sipush 140, 0, 0) := by decide +kernel
theorem fL_build_328 : fet (cdT 123) 328 = some (.iadd, 0, 0) := by decide +kernel
theorem fL_build_329 : fet (cdT 123) 329 = some (.iload 5, 0, 0) := by decide +kernel
theorem fL_build_331 : fet (cdT 123) 331 = some (.iadd, 0, 0) := by decide +kernel
theorem fL_build_332 : fet (cdT 123) 332 = some (.bipush 24, 0, 0) := by decide +kernel
theorem fL_build_334 : fet (cdT 123) 334 = some (.invokestatic 131, 118, 1) := by decide +kernel
theorem fL_build_337 : fet (cdT 123) 337 = some (.iadd, 0, 0) := by decide +kernel
theorem fL_build_338 : fet (cdT 123) 338 = some (.iconst 1, 0, 0) := by decide +kernel
theorem fL_build_339 : fet (cdT 123) 339 = some (.aload_n 1, 0, 0) := by decide +kernel
theorem fL_build_340 : fet (cdT 123) 340 = some (.iload_n 2, 0, 0) := by decide +kernel
theorem fL_build_341 : fet (cdT 123) 341 = some (.sipush 150, 0, 0) := by decide +kernel
theorem fL_build_344 : fet (cdT 123) 344 = some (.iadd, 0, 0) := by decide +kernel
theorem fL_build_345 : fet (cdT 123) 345 = some (.iload 5, 0, 0) := by decide +kernel
theorem fL_build_347 : fet (cdT 123) 347 = some (.iadd, 0, 0) := by decide +kernel
theorem fL_build_348 : fet (cdT 123) 348 = some (.bipush 40, 0, 0) := by decide +kernel
theorem fL_build_350 : fet (cdT 123) 350 = some (.invokestatic 131, 118, 1) := by decide +kernel
theorem fL_build_353 : fet (cdT 123) 353 = some (.iadd, 0, 0) := by decide +kernel
theorem fL_build_354 : fet (cdT 123) 354 = some (.iconst 0, 0, 0) := by decide +kernel
theorem fL_build_355 : fet (cdT 123) 355 = some (.iconst 0, 0, 0) := by decide +kernel
theorem fL_build_356 : fet (cdT 123) 356 = some (.invokestatic 125, 200, 6) := by decide +kernel
theorem fL_build_359 : fet (cdT 123) 359 = some (.pop, 0, 0) := by decide +kernel
theorem fL_build_360 : fet (cdT 123) 360 = some (.iinc 5 1, 0, 0) := by decide +kernel
theorem fL_build_363 : fet (cdT 123) 363 = some (.goto (-76), 0, 0) := by decide +kernel
theorem fL_build_366 : fet (cdT 123) 366 = some (.aload_n 1, 0, 0) := by decide +kernel
theorem fL_build_367 : fet (cdT 123) 367 = some (.iload_n 2, 0, 0) := by decide +kernel
theorem fL_build_368 : fet (cdT 123) 368 = some (.sipush 160, 0, 0) := by decide +kernel
theorem fL_build_371 : fet (cdT 123) 371 = some (.iadd, 0, 0) := by decide +kernel
theorem fL_build_372 : fet (cdT 123) 372 = some (.bipush 6, 0, 0) := by decide +kernel
theorem fL_build_374 : fet (cdT 123) 374 = some (.invokestatic 131, 118, 1) := by decide +kernel
theorem fL_build_377 : fet (cdT 123) 377 = some (.istore 5, 0, 0) := by decide +kernel
theorem fL_build_379 : fet (cdT 123) 379 = some (.iload 5, 0, 0) := by decide +kernel
theorem fL_build_381 : fet (cdT 123) 381 = some (.ifCond .le 118, 0, 0) := by decide +kernel
theorem fL_build_384 : fet (cdT 123) 384 = some (.iload_n 2, 0, 0) := by decide +kernel
theorem fL_build_385 : fet (cdT 123) 385 = some (.sipush 160, 0, 0) := by decide +kernel
theorem fL_build_388 : fet (cdT 123) 388 = some (.iadd, 0, 0) := by decide +kernel
theorem fL_build_389 : fet (cdT 123) 389 = some (.bipush 6, 0, 0) := by decide +kernel
theorem fL_build_391 : fet (cdT 123) 391 = some (.iload 5, 0, 0) := by decide +kernel
theorem fL_build_393 : fet (cdT 123) 393 = some (.imul, 0, 0) := by decide +kernel
theorem fL_build_394 : fet (cdT 123) 394 = some (.iadd, 0, 0) := by decide +kernel
theorem fL_build_395 : fet (cdT 123) 395 = some (.istore 6, 0, 0) := by decide +kernel
theorem fL_build_397 : fet (cdT 123) 397 = some (.aload_n 0, 0, 0) := by decide +kernel
theorem fL_build_398 : fet (cdT 123) 398 = some (.iconst 4, 0, 0) := by decide +kernel
theorem fL_build_399 : fet (cdT 123) 399 = some (.aload_n 1, 0, 0) := by decide +kernel
theorem fL_build_400 : fet (cdT 123) 400 = some (.iload 6, 0, 0) := by decide +kernel
theorem fL_build_402 : fet (cdT 123) 402 = some (.iload 4, 0, 0) := by decide +kernel
theorem fL_build_404 : fet (cdT 123) 404 = some (.invokestatic 131, 118, 1) := by decide +kernel
theorem fL_build_407 : fet (cdT 123) 407 = some (.aload_n 1, 0, 0) := by decide +kernel
theorem fL_build_408 : fet (cdT 123) 408 = some (.iload 6, 0, 0) := by decide +kernel
theorem fL_build_410 : fet (cdT 123) 410 = some (.iconst 1, 0, 0) := by decide +kernel
theorem fL_build_411 : fet (cdT 123) 411 = some (.iadd, 0, 0) := by decide +kernel
theorem fL_build_412 : fet (cdT 123) 412 = some (.iconst 4, 0, 0) := by decide +kernel
theorem fL_build_413 : fet (cdT 123) 413 = some (.invokestatic 131, 118, 1) := by decide +kernel
theorem fL_build_416 : fet (cdT 123) 416 = some (.ifCond .ne 16, 0, 0) := by decide +kernel
theorem fL_build_419 : fet (cdT 123) 419 = some (.aload_n 1, 0, 0) := by decide +kernel
theorem fL_build_420 : fet (cdT 123) 420 = some (.iload 6, 0, 0) := by decide +kernel
theorem fL_build_422 : fet (cdT 123) 422 = some (.iconst 2, 0, 0) := by decide +kernel
theorem fL_build_423 : fet (cdT 123) 423 = some (.iadd, 0, 0) := by decide +kernel
theorem fL_build_424 : fet (cdT 123) 424 = some (.iload 4, 0, 0) := by decide +kernel
theorem fL_build_426 : fet (cdT 123) 426 = some (.invokestatic 131, 118, 1) := by decide +kernel
theorem fL_build_429 : fet (cdT 123) 429 = some (.goto 4, 0, 0) := by decide +kernel
theorem fL_build_432 : fet (cdT 123) 432 = some (.iconst (-1), 0, 0) := by decide +kernel
theorem fL_build_433 : fet (cdT 123) 433 = some (.aload_n 1, 0, 0) := by decide +kernel
theorem fL_build_434 : fet (cdT 123) 434 = some (.iload 6, 0, 0) := by decide +kernel
theorem fL_build_436 : fet (cdT 123) 436 = some (.iconst 3, 0, 0) := by decide +kernel
theorem fL_build_437 : fet (cdT 123) 437 = some (.iadd, 0, 0) := by decide +kernel
theorem fL_build_438 : fet (cdT 123) 438 = some (.iload 4, 0, 0) := by decide +kernel
theorem fL_build_440 : fet (cdT 123) 440 = some (.invokestatic 131, 118, 1) := by decide +kernel
theorem fL_build_443 : fet (cdT 123) 443 = some (.aload_n 1, 0, 0) := by decide +kernel
theorem fL_build_444 : fet (cdT 123) 444 = some (.iload 6, 0, 0) := by decide +kernel
theorem fL_build_446 : fet (cdT 123) 446 = some (.iconst 1, 0, 0) := by decide +kernel
theorem fL_build_447 : fet (cdT 123) 447 = some (.iadd, 0, 0) := by decide +kernel
theorem fL_build_448 : fet (cdT 123) 448 = some (.iconst 4, 0, 0) := by decide +kernel
theorem fL_build_449 : fet (cdT 123) 449 = some (.invokestatic 131, 118, 1) := by decide +kernel
theorem fL_build_452 : fet (cdT 123) 452 = some (.iconst 1, 0, 0) := by decide +kernel
theorem fL_build_453 : fet (cdT 123) 453 = some (.if_icmp .ne 16, 0, 0) := by decide +kernel
theorem fL_build_456 : fet (cdT 123) 456 = some (.aload_n 1, 0, 0) := by decide +kernel
theorem fL_build_457 : fet (cdT 123) 457 = some (.iload 6, 0, 0) := by decide +kernel
theorem fL_build_459 : fet (cdT 123) 459 = some (.iconst 2, 0, 0) := by decide +kernel
theorem fL_build_460 : fet (cdT 123) 460 = some (.iadd, 0, 0) := by decide +kernel
theorem fL_build_461 : fet (cdT 123) 461 = some (.iload 4, 0, 0) := by decide +kernel
theorem fL_build_463 : fet (cdT 123) 463 = some (.invokestatic 131, 118, 1) := by decide +kernel
theorem fL_build_466 : fet (cdT 123) 466 = some (.goto 4, 0, 0) := by decide +kernel
theorem fL_build_469 : fet (cdT 123) 469 = some (.iconst (-1), 0, 0) := by decide +kernel
theorem fL_build_470 : fet (cdT 123) 470 = some (.aload_n 1, 0, 0) := by decide +kernel
theorem fL_build_471 : fet (cdT 123) 471 = some (.iload 6, 0, 0) := by decide +kernel
theorem fL_build_473 : fet (cdT 123) 473 = some (.iconst 4, 0, 0) := by decide +kernel
theorem fL_build_474 : fet (cdT 123) 474 = some (.iadd, 0, 0) := by decide +kernel
theorem fL_build_475 : fet (cdT 123) 475 = some (.bipush 32, 0, 0) := by decide +kernel
theorem fL_build_477 : fet (cdT 123) 477 = some (.invokestatic 131, 118, 1) := by decide +kernel
theorem fL_build_480 : fet (cdT 123) 480 = some (.aload_n 1, 0, 0) := by decide +kernel
theorem fL_build_481 : fet (cdT 123) 481 = some (.iload 6, 0, 0) := by decide +kernel
theorem fL_build_483 : fet (cdT 123) 483 = some (.iconst 5, 0, 0) := by decide +kernel
theorem fL_build_484 : fet (cdT 123) 484 = some (.iadd, 0, 0) := by decide +kernel
theorem fL_build_485 : fet (cdT 123) 485 = some (.iconst 2, 0, 0) := by decide +kernel
theorem fL_build_486 : fet (cdT 123) 486 = some (.invokestatic 131, 118, 1) := by decide +kernel
theorem fL_build_489 : fet (cdT 123) 489 = some (.invokestatic 125, 200, 6) := by decide +kernel
theorem fL_build_492 : fet (cdT 123) 492 = some (.pop, 0, 0) := by decide +kernel
theorem fL_build_493 : fet (cdT 123) 493 = some (.iinc 5 (-1), 0, 0) := by decide +kernel
theorem fL_build_496 : fet (cdT 123) 496 = some (.goto (-117), 0, 0) := by decide +kernel
theorem fL_build_499 : fet (cdT 123) 499 = some (.return_, 0, 0) := by decide +kernel
theorem fL_all_0 : fet (cdT 124) 0 = some (.aload_n 0, 0, 0) := by decide +kernel
theorem fL_all_1 : fet (cdT 124) 1 = some (.invokevirtual 153, 65, 0) := by decide +kernel
theorem fL_all_4 : fet (cdT 124) 4 = some (.i2l, 0, 0) := by decide +kernel
theorem fL_all_5 : fet (cdT 124) 5 = some (.lstore_n 1, 0, 0) := by decide +kernel
theorem fL_all_6 : fet (cdT 124) 6 = some (.iconst 0, 0, 0) := by decide +kernel
theorem fL_all_7 : fet (cdT 124) 7 = some (.istore_n 3, 0, 0) := by decide +kernel
theorem fL_all_8 : fet (cdT 124) 8 = some (.iload_n 3, 0, 0) := by decide +kernel
theorem fL_all_9 : fet (cdT 124) 9 = some (.bipush 32, 0, 0) := by decide +kernel
theorem fL_all_11 : fet (cdT 124) 11 = some (.if_icmp .ge 24, 0, 0) := by decide +kernel
theorem fL_all_14 : fet (cdT 124) 14 = some (.ldc2_w 156, 0, 31) := by decide +kernel
theorem fL_all_17 : fet (cdT 124) 17 = some (.lload_n 1, 0, 0) := by decide +kernel
theorem fL_all_18 : fet (cdT 124) 18 = some (.lmul, 0, 0) := by decide +kernel
theorem fL_all_19 : fet (cdT 124) 19 = some (.aload_n 0, 0, 0) := by decide +kernel
theorem fL_all_20 : fet (cdT 124) 20 = some (.bipush 16, 0, 0) := by decide +kernel
theorem fL_all_22 : fet (cdT 124) 22 = some (.iload_n 3, 0, 0) := by decide +kernel
theorem fL_all_23 : fet (cdT 124) 23 = some (.invokestatic 158, 121, 1) := by decide +kernel
theorem fL_all_26 : fet (cdT 124) 26 = some (.i2l, 0, 0) := by decide +kernel
theorem fL_all_27 : fet (cdT 124) 27 = some (.ladd, 0, 0) := by decide +kernel
theorem fL_all_28 : fet (cdT 124) 28 = some (.lstore_n 1, 0, 0) := by decide +kernel
theorem fL_all_29 : fet (cdT 124) 29 = some (.iinc 3 1, 0, 0) := by decide +kernel
theorem fL_all_32 : fet (cdT 124) 32 = some (.goto (-24), 0, 0) := by decide +kernel
theorem fL_all_35 : fet (cdT 124) 35 = some (.iconst 0, 0, 0) := by decide +kernel
theorem fL_all_36 : fet (cdT 124) 36 = some (.istore_n 3, 0, 0) := by decide +kernel
theorem fL_all_37 : fet (cdT 124) 37 = some (.iload_n 3, 0, 0) := by decide +kernel
theorem fL_all_38 : fet (cdT 124) 38 = some (.bipush 8, 0, 0) := by decide +kernel
theorem fL_all_40 : fet (cdT 124) 40 = some (.if_icmp .ge 84, 0, 0) := by decide +kernel
theorem fL_all_43 : fet (cdT 124) 43 = some (.ldc2_w 156, 0, 31) := by decide +kernel
theorem fL_all_46 : fet (cdT 124) 46 = some (.lload_n 1, 0, 0) := by decide +kernel
theorem fL_all_47 : fet (cdT 124) 47 = some (.lmul, 0, 0) := by decide +kernel
theorem fL_all_48 : fet (cdT 124) 48 = some (.aload_n 0, 0, 0) := by decide +kernel
theorem fL_all_49 : fet (cdT 124) 49 = some (.bipush 17, 0, 0) := by decide +kernel
theorem fL_all_51 : fet (cdT 124) 51 = some (.iload_n 3, 0, 0) := by decide +kernel
theorem fL_all_52 : fet (cdT 124) 52 = some (.invokestatic 158, 121, 1) := by decide +kernel
theorem fL_all_55 : fet (cdT 124) 55 = some (.i2l, 0, 0) := by decide +kernel
theorem fL_all_56 : fet (cdT 124) 56 = some (.ladd, 0, 0) := by decide +kernel
theorem fL_all_57 : fet (cdT 124) 57 = some (.lstore_n 1, 0, 0) := by decide +kernel
theorem fL_all_58 : fet (cdT 124) 58 = some (.ldc2_w 156, 0, 31) := by decide +kernel
theorem fL_all_61 : fet (cdT 124) 61 = some (.lload_n 1, 0, 0) := by decide +kernel
theorem fL_all_62 : fet (cdT 124) 62 = some (.lmul, 0, 0) := by decide +kernel
theorem fL_all_63 : fet (cdT 124) 63 = some (.aload_n 0, 0, 0) := by decide +kernel
theorem fL_all_64 : fet (cdT 124) 64 = some (.bipush 18, 0, 0) := by decide +kernel
theorem fL_all_66 : fet (cdT 124) 66 = some (.iload_n 3, 0, 0) := by decide +kernel
theorem fL_all_67 : fet (cdT 124) 67 = some (.invokestatic 158, 121, 1) := by decide +kernel
theorem fL_all_70 : fet (cdT 124) 70 = some (.i2l, 0, 0) := by decide +kernel
theorem fL_all_71 : fet (cdT 124) 71 = some (.ladd, 0, 0) := by decide +kernel
theorem fL_all_72 : fet (cdT 124) 72 = some (.lstore_n 1, 0, 0) := by decide +kernel
theorem fL_all_73 : fet (cdT 124) 73 = some (.ldc2_w 156, 0, 31) := by decide +kernel
theorem fL_all_76 : fet (cdT 124) 76 = some (.lload_n 1, 0, 0) := by decide +kernel
theorem fL_all_77 : fet (cdT 124) 77 = some (.lmul, 0, 0) := by decide +kernel
theorem fL_all_78 : fet (cdT 124) 78 = some (.aload_n 0, 0, 0) := by decide +kernel
theorem fL_all_79 : fet (cdT 124) 79 = some (.bipush 19, 0, 0) := by decide +kernel
theorem fL_all_81 : fet (cdT 124) 81 = some (.iload_n 3, 0, 0) := by decide +kernel
theorem fL_all_82 : fet (cdT 124) 82 = some (.invokestatic 158, 121, 1) := by decide +kernel
theorem fL_all_85 : fet (cdT 124) 85 = some (.i2l, 0, 0) := by decide +kernel
theorem fL_all_86 : fet (cdT 124) 86 = some (.ladd, 0, 0) := by decide +kernel
theorem fL_all_87 : fet (cdT 124) 87 = some (.lstore_n 1, 0, 0) := by decide +kernel
theorem fL_all_88 : fet (cdT 124) 88 = some (.ldc2_w 156, 0, 31) := by decide +kernel
theorem fL_all_91 : fet (cdT 124) 91 = some (.lload_n 1, 0, 0) := by decide +kernel
theorem fL_all_92 : fet (cdT 124) 92 = some (.lmul, 0, 0) := by decide +kernel
theorem fL_all_93 : fet (cdT 124) 93 = some (.aload_n 0, 0, 0) := by decide +kernel
theorem fL_all_94 : fet (cdT 124) 94 = some (.bipush 22, 0, 0) := by decide +kernel
theorem fL_all_96 : fet (cdT 124) 96 = some (.iload_n 3, 0, 0) := by decide +kernel
theorem fL_all_97 : fet (cdT 124) 97 = some (.invokestatic 158, 121, 1) := by decide +kernel
theorem fL_all_100 : fet (cdT 124) 100 = some (.i2l, 0, 0) := by decide +kernel
theorem fL_all_101 : fet (cdT 124) 101 = some (.ladd, 0, 0) := by decide +kernel
theorem fL_all_102 : fet (cdT 124) 102 = some (.lstore_n 1, 0, 0) := by decide +kernel
theorem fL_all_103 : fet (cdT 124) 103 = some (.ldc2_w 156, 0, 31) := by decide +kernel
theorem fL_all_106 : fet (cdT 124) 106 = some (.lload_n 1, 0, 0) := by decide +kernel
theorem fL_all_107 : fet (cdT 124) 107 = some (.lmul, 0, 0) := by decide +kernel
theorem fL_all_108 : fet (cdT 124) 108 = some (.aload_n 0, 0, 0) := by decide +kernel
theorem fL_all_109 : fet (cdT 124) 109 = some (.bipush 26, 0, 0) := by decide +kernel
theorem fL_all_111 : fet (cdT 124) 111 = some (.iload_n 3, 0, 0) := by decide +kernel
theorem fL_all_112 : fet (cdT 124) 112 = some (.invokestatic 158, 121, 1) := by decide +kernel
theorem fL_all_115 : fet (cdT 124) 115 = some (.i2l, 0, 0) := by decide +kernel
theorem fL_all_116 : fet (cdT 124) 116 = some (.ladd, 0, 0) := by decide +kernel
theorem fL_all_117 : fet (cdT 124) 117 = some (.lstore_n 1, 0, 0) := by decide +kernel
theorem fL_all_118 : fet (cdT 124) 118 = some (.iinc 3 1, 0, 0) := by decide +kernel
theorem fL_all_121 : fet (cdT 124) 121 = some (.goto (-84), 0, 0) := by decide +kernel
theorem fL_all_124 : fet (cdT 124) 124 = some (.iconst 0, 0, 0) := by decide +kernel
theorem fL_all_125 : fet (cdT 124) 125 = some (.istore_n 3, 0, 0) := by decide +kernel
theorem fL_all_126 : fet (cdT 124) 126 = some (.iload_n 3, 0, 0) := by decide +kernel
theorem fL_all_127 : fet (cdT 124) 127 = some (.bipush 12, 0, 0) := by decide +kernel
theorem fL_all_129 : fet (cdT 124) 129 = some (.if_icmp .ge 24, 0, 0) := by decide +kernel
theorem fL_all_132 : fet (cdT 124) 132 = some (.ldc2_w 156, 0, 31) := by decide +kernel
theorem fL_all_135 : fet (cdT 124) 135 = some (.lload_n 1, 0, 0) := by decide +kernel
theorem fL_all_136 : fet (cdT 124) 136 = some (.lmul, 0, 0) := by decide +kernel
theorem fL_all_137 : fet (cdT 124) 137 = some (.aload_n 0, 0, 0) := by decide +kernel
theorem fL_all_138 : fet (cdT 124) 138 = some (.bipush 21, 0, 0) := by decide +kernel
theorem fL_all_140 : fet (cdT 124) 140 = some (.iload_n 3, 0, 0) := by decide +kernel
theorem fL_all_141 : fet (cdT 124) 141 = some (.invokestatic 158, 121, 1) := by decide +kernel
theorem fL_all_144 : fet (cdT 124) 144 = some (.i2l, 0, 0) := by decide +kernel
theorem fL_all_145 : fet (cdT 124) 145 = some (.ladd, 0, 0) := by decide +kernel
theorem fL_all_146 : fet (cdT 124) 146 = some (.lstore_n 1, 0, 0) := by decide +kernel
theorem fL_all_147 : fet (cdT 124) 147 = some (.iinc 3 1, 0, 0) := by decide +kernel
theorem fL_all_150 : fet (cdT 124) 150 = some (.goto (-24), 0, 0) := by decide +kernel
theorem fL_all_153 : fet (cdT 124) 153 = some (.iconst 0, 0, 0) := by decide +kernel
theorem fL_all_154 : fet (cdT 124) 154 = some (.istore_n 3, 0, 0) := by decide +kernel
theorem fL_all_155 : fet (cdT 124) 155 = some (.iload_n 3, 0, 0) := by decide +kernel
theorem fL_all_156 : fet (cdT 124) 156 = some (.aload_n 0, 0, 0) := by decide +kernel
theorem fL_all_157 : fet (cdT 124) 157 = some (.invokevirtual 162, 63, 0) := by decide +kernel
theorem fL_all_160 : fet (cdT 124) 160 = some (.if_icmp .ge 24, 0, 0) := by decide +kernel
theorem fL_all_163 : fet (cdT 124) 163 = some (.ldc2_w 156, 0, 31) := by decide +kernel
theorem fL_all_166 : fet (cdT 124) 166 = some (.lload_n 1, 0, 0) := by decide +kernel
theorem fL_all_167 : fet (cdT 124) 167 = some (.lmul, 0, 0) := by decide +kernel
theorem fL_all_168 : fet (cdT 124) 168 = some (.aload_n 0, 0, 0) := by decide +kernel
theorem fL_all_169 : fet (cdT 124) 169 = some (.bipush 23, 0, 0) := by decide +kernel
theorem fL_all_171 : fet (cdT 124) 171 = some (.iload_n 3, 0, 0) := by decide +kernel
theorem fL_all_172 : fet (cdT 124) 172 = some (.invokestatic 158, 121, 1) := by decide +kernel
theorem fL_all_175 : fet (cdT 124) 175 = some (.i2l, 0, 0) := by decide +kernel
theorem fL_all_176 : fet (cdT 124) 176 = some (.ladd, 0, 0) := by decide +kernel
theorem fL_all_177 : fet (cdT 124) 177 = some (.lstore_n 1, 0, 0) := by decide +kernel
theorem fL_all_178 : fet (cdT 124) 178 = some (.iinc 3 1, 0, 0) := by decide +kernel
theorem fL_all_181 : fet (cdT 124) 181 = some (.goto (-26), 0, 0) := by decide +kernel
theorem fL_all_184 : fet (cdT 124) 184 = some (.lload_n 1, 0, 0) := by decide +kernel
theorem fL_all_185 : fet (cdT 124) 185 = some (.ldc2_w 165, 0, 7) := by decide +kernel
theorem fL_all_188 : fet (cdT 124) 188 = some (.aload_n 0, 0, 0) := by decide +kernel
theorem fL_all_189 : fet (cdT 124) 189 = some (.invokevirtual 167, 72, 0) := by decide +kernel
theorem fL_all_192 : fet (cdT 124) 192 = some (.lmul, 0, 0) := by decide +kernel
theorem fL_all_193 : fet (cdT 124) 193 = some (.ladd, 0, 0) := by decide +kernel
theorem fL_all_194 : fet (cdT 124) 194 = some (.ldc2_w 171, 0, 11) := by decide +kernel
theorem fL_all_197 : fet (cdT 124) 197 = some (.aload_n 0, 0, 0) := by decide +kernel
theorem fL_all_198 : fet (cdT 124) 198 = some (.invokevirtual 173, 68, 0) := by decide +kernel
theorem fL_all_201 : fet (cdT 124) 201 = some (.invokestatic 43, 119, 1) := by decide +kernel
theorem fL_all_204 : fet (cdT 124) 204 = some (.i2l, 0, 0) := by decide +kernel
theorem fL_all_205 : fet (cdT 124) 205 = some (.lmul, 0, 0) := by decide +kernel
theorem fL_all_206 : fet (cdT 124) 206 = some (.ladd, 0, 0) := by decide +kernel
theorem fL_all_207 : fet (cdT 124) 207 = some (.lreturn, 0, 0) := by decide +kernel
theorem fL_isWhole_0 : fet (cdT 125) 0 = some (.aload_n 0, 0, 0) := by decide +kernel
theorem fL_isWhole_1 : fet (cdT 125) 1 = some (.invokevirtual 177, 73, 0) := by decide +kernel
theorem fL_isWhole_4 : fet (cdT 125) 4 = some (.istore_n 1, 0, 0) := by decide +kernel
theorem fL_isWhole_5 : fet (cdT 125) 5 = some (.iconst 0, 0, 0) := by decide +kernel
theorem fL_isWhole_6 : fet (cdT 125) 6 = some (.istore_n 2, 0, 0) := by decide +kernel
theorem fL_isWhole_7 : fet (cdT 125) 7 = some (.iload_n 2, 0, 0) := by decide +kernel
theorem fL_isWhole_8 : fet (cdT 125) 8 = some (.bipush 8, 0, 0) := by decide +kernel
theorem fL_isWhole_10 : fet (cdT 125) 10 = some (.if_icmp .ge 104, 0, 0) := by decide +kernel
theorem fL_isWhole_13 : fet (cdT 125) 13 = some (.aload_n 0, 0, 0) := by decide +kernel
theorem fL_isWhole_14 : fet (cdT 125) 14 = some (.bipush 22, 0, 0) := by decide +kernel
theorem fL_isWhole_16 : fet (cdT 125) 16 = some (.iload_n 2, 0, 0) := by decide +kernel
theorem fL_isWhole_17 : fet (cdT 125) 17 = some (.invokestatic 158, 121, 1) := by decide +kernel
theorem fL_isWhole_20 : fet (cdT 125) 20 = some (.istore_n 3, 0, 0) := by decide +kernel
theorem fL_isWhole_21 : fet (cdT 125) 21 = some (.iconst 0, 0, 0) := by decide +kernel
theorem fL_isWhole_22 : fet (cdT 125) 22 = some (.istore 4, 0, 0) := by decide +kernel
theorem fL_isWhole_24 : fet (cdT 125) 24 = some (.iconst 0, 0, 0) := by decide +kernel
theorem fL_isWhole_25 : fet (cdT 125) 25 = some (.istore 5, 0, 0) := by decide +kernel
theorem fL_isWhole_27 : fet (cdT 125) 27 = some (.iload 5, 0, 0) := by decide +kernel
theorem fL_isWhole_29 : fet (cdT 125) 29 = some (.aload_n 0, 0, 0) := by decide +kernel
theorem fL_isWhole_30 : fet (cdT 125) 30 = some (.invokevirtual 162, 63, 0) := by decide +kernel
theorem fL_isWhole_33 : fet (cdT 125) 33 = some (.if_icmp .ge 34, 0, 0) := by decide +kernel
theorem fL_isWhole_36 : fet (cdT 125) 36 = some (.iload 4, 0, 0) := by decide +kernel
theorem fL_isWhole_38 : fet (cdT 125) 38 = some (.aload_n 0, 0, 0) := by decide +kernel
theorem fL_isWhole_39 : fet (cdT 125) 39 = some (.bipush 23, 0, 0) := by decide +kernel
theorem fL_isWhole_41 : fet (cdT 125) 41 = some (.iload 5, 0, 0) := by decide +kernel
theorem fL_isWhole_43 : fet (cdT 125) 43 = some (.invokestatic 158, 121, 1) := by decide +kernel
theorem fL_isWhole_46 : fet (cdT 125) 46 = some (.iload_n 2, 0, 0) := by decide +kernel
theorem fL_isWhole_47 : fet (cdT 125) 47 = some (.if_icmp .ne 7, 0, 0) := by decide +kernel
theorem fL_isWhole_50 : fet (cdT 125) 50 = some (.iconst 1, 0, 0) := by decide +kernel
theorem fL_isWhole_51 : fet (cdT 125) 51 = some (.goto 4, 0, 0) := by decide +kernel
theorem fL_isWhole_54 : fet (cdT 125) 54 = some (.iconst 0, 0, 0) := by decide +kernel
theorem fL_isWhole_55 : fet (cdT 125) 55 = some (.invokestatic 43, 119, 1) := by decide +kernel
theorem fL_isWhole_58 : fet (cdT 125) 58 = some (.iadd, 0, 0) := by decide +kernel
theorem fL_isWhole_59 : fet (cdT 125) 59 = some (.istore 4, 0, 0) := by decide +kernel
theorem fL_isWhole_61 : fet (cdT 125) 61 = some (.iinc 5 1, 0, 0) := by decide +kernel
theorem fL_isWhole_64 : fet (cdT 125) 64 = some (.goto (-37), 0, 0) := by decide +kernel
theorem fL_isWhole_67 : fet (cdT 125) 67 = some (.iload_n 1, 0, 0) := by decide +kernel
theorem fL_isWhole_68 : fet (cdT 125) 68 = some (.ifCond .eq 38, 0, 0) := by decide +kernel
theorem fL_isWhole_71 : fet (cdT 125) 71 = some (.iload 4, 0, 0) := by decide +kernel
theorem fL_isWhole_73 : fet (cdT 125) 73 = some (.iload_n 3, 0, 0) := by decide +kernel
theorem fL_isWhole_74 : fet (cdT 125) 74 = some (.bipush 116, 0, 0) := by decide +kernel
theorem fL_isWhole_76 : fet (cdT 125) 76 = some (.if_icmp .eq 15, 0, 0) := by decide +kernel
theorem fL_isWhole_79 : fet (cdT 125) 79 = some (.iload_n 3, 0, 0) := by decide +kernel
theorem fL_isWhole_80 : fet (cdT 125) 80 = some (.bipush 97, 0, 0) := by decide +kernel
theorem fL_isWhole_82 : fet (cdT 125) 82 = some (.if_icmp .eq 9, 0, 0) := by decide +kernel
theorem fL_isWhole_85 : fet (cdT 125) 85 = some (.iload_n 3, 0, 0) := by decide +kernel
theorem fL_isWhole_86 : fet (cdT 125) 86 = some (.bipush 114, 0, 0) := by decide +kernel
theorem fL_isWhole_88 : fet (cdT 125) 88 = some (.if_icmp .ne 7, 0, 0) := by decide +kernel
theorem fL_isWhole_91 : fet (cdT 125) 91 = some (.iconst 1, 0, 0) := by decide +kernel
theorem fL_isWhole_92 : fet (cdT 125) 92 = some (.goto 4, 0, 0) := by decide +kernel
theorem fL_isWhole_95 : fet (cdT 125) 95 = some (.iconst 0, 0, 0) := by decide +kernel
theorem fL_isWhole_96 : fet (cdT 125) 96 = some (.invokestatic 43, 119, 1) := by decide +kernel
theorem fL_isWhole_99 : fet (cdT 125) 99 = some (.if_icmp .ne 7, 0, 0) := by decide +kernel
theorem fL_isWhole_102 : fet (cdT 125) 102 = some (.iconst 1, 0, 0) := by decide +kernel
theorem fL_isWhole_103 : fet (cdT 125) 103 = some (.goto 4, 0, 0) := by decide +kernel
theorem fL_isWhole_106 : fet (cdT 125) 106 = some (.iconst 0, 0, 0) := by decide +kernel
theorem fL_isWhole_107 : fet (cdT 125) 107 = some (.istore_n 1, 0, 0) := by decide +kernel
theorem fL_isWhole_108 : fet (cdT 125) 108 = some (.iinc 2 1, 0, 0) := by decide +kernel
theorem fL_isWhole_111 : fet (cdT 125) 111 = some (.goto (-104), 0, 0) := by decide +kernel
theorem fL_isWhole_114 : fet (cdT 125) 114 = some (.iload_n 1, 0, 0) := by decide +kernel
theorem fL_isWhole_115 : fet (cdT 125) 115 = some (.ifCond .eq 40, 0, 0) := by decide +kernel
theorem fL_isWhole_118 : fet (cdT 125) 118 = some (.aload_n 0, 0, 0) := by decide +kernel
theorem fL_isWhole_119 : fet (cdT 125) 119 = some (.bipush 23, 0, 0) := by decide +kernel
theorem fL_isWhole_121 : fet (cdT 125) 121 = some (.aload_n 0, 0, 0) := by decide +kernel
theorem fL_isWhole_122 : fet (cdT 125) 122 = some (.invokevirtual 162, 63, 0) := by decide +kernel
theorem fL_isWhole_125 : fet (cdT 125) 125 = some (.invokestatic 158, 121, 1) := by decide +kernel
theorem fL_isWhole_128 : fet (cdT 125) 128 = some (.sipush (-2001), 0, 0) := by decide +kernel
theorem fL_isWhole_131 : fet (cdT 125) 131 = some (.if_icmp .ne 24, 0, 0) := by decide +kernel
theorem fL_isWhole_134 : fet (cdT 125) 134 = some (.aload_n 0, 0, 0) := by decide +kernel
theorem fL_isWhole_135 : fet (cdT 125) 135 = some (.invokevirtual 173, 68, 0) := by decide +kernel
theorem fL_isWhole_138 : fet (cdT 125) 138 = some (.ifCond .ne 13, 0, 0) := by decide +kernel
theorem fL_isWhole_141 : fet (cdT 125) 141 = some (.aload_n 0, 0, 0) := by decide +kernel
theorem fL_isWhole_142 : fet (cdT 125) 142 = some (.bipush 25, 0, 0) := by decide +kernel
theorem fL_isWhole_144 : fet (cdT 125) 144 = some (.iconst 0, 0, 0) := by decide +kernel
theorem fL_isWhole_145 : fet (cdT 125) 145 = some (.invokestatic 158, 121, 1) := by decide +kernel
theorem fL_isWhole_148 : fet (cdT 125) 148 = some (.ifCond .lt 7, 0, 0) := by decide +kernel
theorem fL_isWhole_151 : fet (cdT 125) 151 = some (.iconst 1, 0, 0) := by decide +kernel
theorem fL_isWhole_152 : fet (cdT 125) 152 = some (.goto 4, 0, 0) := by decide +kernel
theorem fL_isWhole_155 : fet (cdT 125) 155 = some (.iconst 0, 0, 0) := by decide +kernel
theorem fL_isWhole_156 : fet (cdT 125) 156 = some (.ireturn, 0, 0) := by decide +kernel
theorem fL_happens_0 : fet (cdT 126) 0 = some (.aload_n 1, 0, 0) := by decide +kernel
theorem fL_happens_1 : fet (cdT 126) 1 = some (.iload_n 2, 0, 0) := by decide +kernel
theorem fL_happens_2 : fet (cdT 126) 2 = some (.bipush 12, 0, 0) := by decide +kernel
theorem fL_happens_4 : fet (cdT 126) 4 = some (.invokestatic 131, 118, 1) := by decide +kernel
theorem fL_happens_7 : fet (cdT 126) 7 = some (.tableswitch 209 0 5 #[37, 70, 94, 128, 153, 186], 0, 0) := by decide +kernel
theorem fL_happens_44 : fet (cdT 126) 44 = some (.aload_n 0, 0, 0) := by decide +kernel
theorem fL_happens_45 : fet (cdT 126) 45 = some (.bipush 7, 0, 0) := by decide +kernel
theorem fL_happens_47 : fet (cdT 126) 47 = some (.aload_n 1, 0, 0) := by decide +kernel
theorem fL_happens_48 : fet (cdT 126) 48 = some (.iload_n 2, 0, 0) := by decide +kernel
theorem fL_happens_49 : fet (cdT 126) 49 = some (.iconst 1, 0, 0) := by decide +kernel
theorem fL_happens_50 : fet (cdT 126) 50 = some (.iadd, 0, 0) := by decide +kernel
theorem fL_happens_51 : fet (cdT 126) 51 = some (.bipush 32, 0, 0) := by decide +kernel
theorem fL_happens_53 : fet (cdT 126) 53 = some (.invokestatic 131, 118, 1) := by decide +kernel
theorem fL_happens_56 : fet (cdT 126) 56 = some (.aload_n 1, 0, 0) := by decide +kernel
theorem fL_happens_57 : fet (cdT 126) 57 = some (.iload_n 2, 0, 0) := by decide +kernel
theorem fL_happens_58 : fet (cdT 126) 58 = some (.iconst 2, 0, 0) := by decide +kernel
theorem fL_happens_59 : fet (cdT 126) 59 = some (.iadd, 0, 0) := by decide +kernel
theorem fL_happens_60 : fet (cdT 126) 60 = some (.iconst 3, 0, 0) := by decide +kernel
theorem fL_happens_61 : fet (cdT 126) 61 = some (.invokestatic 131, 118, 1) := by decide +kernel
theorem fL_happens_64 : fet (cdT 126) 64 = some (.iconst 1, 0, 0) := by decide +kernel
theorem fL_happens_65 : fet (cdT 126) 65 = some (.isub, 0, 0) := by decide +kernel
theorem fL_happens_66 : fet (cdT 126) 66 = some (.iconst 0, 0, 0) := by decide +kernel
theorem fL_happens_67 : fet (cdT 126) 67 = some (.iconst 0, 0, 0) := by decide +kernel
theorem fL_happens_68 : fet (cdT 126) 68 = some (.iconst 0, 0, 0) := by decide +kernel
theorem fL_happens_69 : fet (cdT 126) 69 = some (.iconst 0, 0, 0) := by decide +kernel
theorem fL_happens_70 : fet (cdT 126) 70 = some (.invokestatic 125, 200, 6) := by decide +kernel
theorem fL_happens_73 : fet (cdT 126) 73 = some (.pop, 0, 0) := by decide +kernel
theorem fL_happens_74 : fet (cdT 126) 74 = some (.goto 163, 0, 0) := by decide +kernel
theorem fL_happens_77 : fet (cdT 126) 77 = some (.aload_n 0, 0, 0) := by decide +kernel
theorem fL_happens_78 : fet (cdT 126) 78 = some (.bipush 14, 0, 0) := by decide +kernel
theorem fL_happens_80 : fet (cdT 126) 80 = some (.aload_n 1, 0, 0) := by decide +kernel
theorem fL_happens_81 : fet (cdT 126) 81 = some (.iload_n 2, 0, 0) := by decide +kernel
theorem fL_happens_82 : fet (cdT 126) 82 = some (.iconst 1, 0, 0) := by decide +kernel
theorem fL_happens_83 : fet (cdT 126) 83 = some (.iadd, 0, 0) := by decide +kernel
theorem fL_happens_84 : fet (cdT 126) 84 = some (.bipush 8, 0, 0) := by decide +kernel
theorem fL_happens_86 : fet (cdT 126) 86 = some (.invokestatic 131, 118, 1) := by decide +kernel
theorem fL_happens_89 : fet (cdT 126) 89 = some (.iconst 0, 0, 0) := by decide +kernel
theorem fL_happens_90 : fet (cdT 126) 90 = some (.iconst 0, 0, 0) := by decide +kernel
theorem fL_happens_91 : fet (cdT 126) 91 = some (.iconst 0, 0, 0) := by decide +kernel
theorem fL_happens_92 : fet (cdT 126) 92 = some (.iconst 0, 0, 0) := by decide +kernel
theorem fL_happens_93 : fet (cdT 126) 93 = some (.iconst 0, 0, 0) := by decide +kernel
theorem fL_happens_94 : fet (cdT 126) 94 = some (.invokestatic 125, 200, 6) := by decide +kernel
theorem fL_happens_97 : fet (cdT 126) 97 = some (.pop, 0, 0) := by decide +kernel
theorem fL_happens_98 : fet (cdT 126) 98 = some (.goto 139, 0, 0) := by decide +kernel
theorem fL_happens_101 : fet (cdT 126) 101 = some (.aload_n 0, 0, 0) := by decide +kernel
theorem fL_happens_102 : fet (cdT 126) 102 = some (.bipush 15, 0, 0) := by decide +kernel
theorem fL_happens_104 : fet (cdT 126) 104 = some (.aload_n 1, 0, 0) := by decide +kernel
theorem fL_happens_105 : fet (cdT 126) 105 = some (.iload_n 2, 0, 0) := by decide +kernel
theorem fL_happens_106 : fet (cdT 126) 106 = some (.iconst 1, 0, 0) := by decide +kernel
theorem fL_happens_107 : fet (cdT 126) 107 = some (.iadd, 0, 0) := by decide +kernel
theorem fL_happens_108 : fet (cdT 126) 108 = some (.bipush 8, 0, 0) := by decide +kernel
theorem fL_happens_110 : fet (cdT 126) 110 = some (.invokestatic 131, 118, 1) := by decide +kernel
theorem fL_happens_113 : fet (cdT 126) 113 = some (.aload_n 1, 0, 0) := by decide +kernel
theorem fL_happens_114 : fet (cdT 126) 114 = some (.iload_n 2, 0, 0) := by decide +kernel
theorem fL_happens_115 : fet (cdT 126) 115 = some (.iconst 2, 0, 0) := by decide +kernel
theorem fL_happens_116 : fet (cdT 126) 116 = some (.iadd, 0, 0) := by decide +kernel
theorem fL_happens_117 : fet (cdT 126) 117 = some (.iconst 3, 0, 0) := by decide +kernel
theorem fL_happens_118 : fet (cdT 126) 118 = some (.invokestatic 131, 118, 1) := by decide +kernel
theorem fL_happens_121 : fet (cdT 126) 121 = some (.bipush 7, 0, 0) := by decide +kernel
theorem fL_happens_123 : fet (cdT 126) 123 = some (.imul, 0, 0) := by decide +kernel
theorem fL_happens_124 : fet (cdT 126) 124 = some (.iconst 0, 0, 0) := by decide +kernel
theorem fL_happens_125 : fet (cdT 126) 125 = some (.iconst 0, 0, 0) := by decide +kernel
theorem fL_happens_126 : fet (cdT 126) 126 = some (.iconst 0, 0, 0) := by decide +kernel
theorem fL_happens_127 : fet (cdT 126) 127 = some (.iconst 0, 0, 0) := by decide +kernel
theorem fL_happens_128 : fet (cdT 126) 128 = some (.invokestatic 125, 200, 6) := by decide +kernel
theorem fL_happens_131 : fet (cdT 126) 131 = some (.pop, 0, 0) := by decide +kernel
theorem fL_happens_132 : fet (cdT 126) 132 = some (.goto 105, 0, 0) := by decide +kernel
theorem fL_happens_135 : fet (cdT 126) 135 = some (.aload_n 0, 0, 0) := by decide +kernel
theorem fL_happens_136 : fet (cdT 126) 136 = some (.bipush 11, 0, 0) := by decide +kernel
theorem fL_happens_138 : fet (cdT 126) 138 = some (.iconst 1, 0, 0) := by decide +kernel
theorem fL_happens_139 : fet (cdT 126) 139 = some (.aload_n 1, 0, 0) := by decide +kernel
theorem fL_happens_140 : fet (cdT 126) 140 = some (.iload_n 2, 0, 0) := by decide +kernel
theorem fL_happens_141 : fet (cdT 126) 141 = some (.iconst 1, 0, 0) := by decide +kernel
theorem fL_happens_142 : fet (cdT 126) 142 = some (.iadd, 0, 0) := by decide +kernel
theorem fL_happens_143 : fet (cdT 126) 143 = some (.iconst 4, 0, 0) := by decide +kernel
theorem fL_happens_144 : fet (cdT 126) 144 = some (.invokestatic 131, 118, 1) := by decide +kernel
theorem fL_happens_147 : fet (cdT 126) 147 = some (.iadd, 0, 0) := by decide +kernel
theorem fL_happens_148 : fet (cdT 126) 148 = some (.iconst 0, 0, 0) := by decide +kernel
theorem fL_happens_149 : fet (cdT 126) 149 = some (.iconst 0, 0, 0) := by decide +kernel
theorem fL_happens_150 : fet (cdT 126) 150 = some (.iconst 0, 0, 0) := by decide +kernel
theorem fL_happens_151 : fet (cdT 126) 151 = some (.iconst 0, 0, 0) := by decide +kernel
theorem fL_happens_152 : fet (cdT 126) 152 = some (.iconst 0, 0, 0) := by decide +kernel
theorem fL_happens_153 : fet (cdT 126) 153 = some (.invokestatic 125, 200, 6) := by decide +kernel
theorem fL_happens_156 : fet (cdT 126) 156 = some (.pop, 0, 0) := by decide +kernel
theorem fL_happens_157 : fet (cdT 126) 157 = some (.goto 80, 0, 0) := by decide +kernel
theorem fL_happens_160 : fet (cdT 126) 160 = some (.aload_n 0, 0, 0) := by decide +kernel
theorem fL_happens_161 : fet (cdT 126) 161 = some (.bipush 8, 0, 0) := by decide +kernel
theorem fL_happens_163 : fet (cdT 126) 163 = some (.aload_n 1, 0, 0) := by decide +kernel
theorem fL_happens_164 : fet (cdT 126) 164 = some (.iload_n 2, 0, 0) := by decide +kernel
theorem fL_happens_165 : fet (cdT 126) 165 = some (.iconst 1, 0, 0) := by decide +kernel
theorem fL_happens_166 : fet (cdT 126) 166 = some (.iadd, 0, 0) := by decide +kernel
theorem fL_happens_167 : fet (cdT 126) 167 = some (.iconst 2, 0, 0) := by decide +kernel
theorem fL_happens_168 : fet (cdT 126) 168 = some (.invokestatic 131, 118, 1) := by decide +kernel
theorem fL_happens_171 : fet (cdT 126) 171 = some (.iconst 1, 0, 0) := by decide +kernel
theorem fL_happens_172 : fet (cdT 126) 172 = some (.aload_n 1, 0, 0) := by decide +kernel
theorem fL_happens_173 : fet (cdT 126) 173 = some (.iload_n 2, 0, 0) := by decide +kernel
theorem fL_happens_174 : fet (cdT 126) 174 = some (.iconst 2, 0, 0) := by decide +kernel
theorem fL_happens_175 : fet (cdT 126) 175 = some (.iadd, 0, 0) := by decide +kernel
theorem fL_happens_176 : fet (cdT 126) 176 = some (.bipush 9, 0, 0) := by decide +kernel
theorem fL_happens_178 : fet (cdT 126) 178 = some (.invokestatic 131, 118, 1) := by decide +kernel
theorem fL_happens_181 : fet (cdT 126) 181 = some (.iadd, 0, 0) := by decide +kernel
theorem fL_happens_182 : fet (cdT 126) 182 = some (.iconst 0, 0, 0) := by decide +kernel
theorem fL_happens_183 : fet (cdT 126) 183 = some (.iconst 0, 0, 0) := by decide +kernel
theorem fL_happens_184 : fet (cdT 126) 184 = some (.iconst 0, 0, 0) := by decide +kernel
theorem fL_happens_185 : fet (cdT 126) 185 = some (.iconst 0, 0, 0) := by decide +kernel
theorem fL_happens_186 : fet (cdT 126) 186 = some (.invokestatic 125, 200, 6) := by decide +kernel
theorem fL_happens_189 : fet (cdT 126) 189 = some (.pop, 0, 0) := by decide +kernel
theorem fL_happens_190 : fet (cdT 126) 190 = some (.goto 47, 0, 0) := by decide +kernel
theorem fL_happens_193 : fet (cdT 126) 193 = some (.aload_n 0, 0, 0) := by decide +kernel
theorem fL_happens_194 : fet (cdT 126) 194 = some (.bipush 12, 0, 0) := by decide +kernel
theorem fL_happens_196 : fet (cdT 126) 196 = some (.aload_n 1, 0, 0) := by decide +kernel
theorem fL_happens_197 : fet (cdT 126) 197 = some (.iload_n 2, 0, 0) := by decide +kernel
theorem fL_happens_198 : fet (cdT 126) 198 = some (.iconst 1, 0, 0) := by decide +kernel
theorem fL_happens_199 : fet (cdT 126) 199 = some (.iadd, 0, 0) := by decide +kernel
theorem fL_happens_200 : fet (cdT 126) 200 = some (.iconst 4, 0, 0) := by decide +kernel
theorem fL_happens_201 : fet (cdT 126) 201 = some (.invokestatic 131, 118, 1) := by decide +kernel
theorem fL_happens_204 : fet (cdT 126) 204 = some (.iconst 0, 0, 0) := by decide +kernel
theorem fL_happens_205 : fet (cdT 126) 205 = some (.iconst 0, 0, 0) := by decide +kernel
theorem fL_happens_206 : fet (cdT 126) 206 = some (.iconst 0, 0, 0) := by decide +kernel
theorem fL_happens_207 : fet (cdT 126) 207 = some (.iconst 0, 0, 0) := by decide +kernel
theorem fL_happens_208 : fet (cdT 126) 208 = some (.iconst 0, 0, 0) := by decide +kernel
theorem fL_happens_209 : fet (cdT 126) 209 = some (.invokestatic 125, 200, 6) := by decide +kernel
theorem fL_happens_212 : fet (cdT 126) 212 = some (.pop, 0, 0) := by decide +kernel
theorem fL_happens_213 : fet (cdT 126) 213 = some (.goto 24, 0, 0) := by decide +kernel
theorem fL_happens_216 : fet (cdT 126) 216 = some (.aload_n 0, 0, 0) := by decide +kernel
theorem fL_happens_217 : fet (cdT 126) 217 = some (.aload_n 1, 0, 0) := by decide +kernel
theorem fL_happens_218 : fet (cdT 126) 218 = some (.iload_n 2, 0, 0) := by decide +kernel
theorem fL_happens_219 : fet (cdT 126) 219 = some (.iconst 1, 0, 0) := by decide +kernel
theorem fL_happens_220 : fet (cdT 126) 220 = some (.iadd, 0, 0) := by decide +kernel
theorem fL_happens_221 : fet (cdT 126) 221 = some (.bipush 8, 0, 0) := by decide +kernel
theorem fL_happens_223 : fet (cdT 126) 223 = some (.invokestatic 131, 118, 1) := by decide +kernel
theorem fL_happens_226 : fet (cdT 126) 226 = some (.aload_n 1, 0, 0) := by decide +kernel
theorem fL_happens_227 : fet (cdT 126) 227 = some (.iload_n 2, 0, 0) := by decide +kernel
theorem fL_happens_228 : fet (cdT 126) 228 = some (.iconst 2, 0, 0) := by decide +kernel
theorem fL_happens_229 : fet (cdT 126) 229 = some (.iadd, 0, 0) := by decide +kernel
theorem fL_happens_230 : fet (cdT 126) 230 = some (.iconst 2, 0, 0) := by decide +kernel
theorem fL_happens_231 : fet (cdT 126) 231 = some (.invokestatic 131, 118, 1) := by decide +kernel
theorem fL_happens_234 : fet (cdT 126) 234 = some (.invokestatic 180, 122, 1) := by decide +kernel
theorem fL_happens_237 : fet (cdT 126) 237 = some (.return_, 0, 0) := by decide +kernel
theorem mX0_clear : mdT 0 = (0, 0, 2, 0) := by decide +kernel
theorem mX0_copyFrom : mdT 1 = (1, 0, 2, 0) := by decide +kernel
theorem mX0_timesInRow : mdT 2 = (1, 1, 4, 0) := by decide +kernel
theorem mX0_enterRow : mdT 3 = (1, 0, 3, 0) := by decide +kernel
theorem mX0_leaveRow : mdT 4 = (1, 0, 4, 0) := by decide +kernel
theorem mX0_appear : mdT 5 = (1, 0, 2, 0) := by decide +kernel
theorem mX0_vanish : mdT 6 = (1, 0, 2, 0) := by decide +kernel
theorem mX0_confirm : mdT 7 = (1, 0, 2, 0) := by decide +kernel
theorem mX0_putAway : mdT 8 = (2, 0, 3, 0) := by decide +kernel
theorem mX0_shortenShelving : mdT 9 = (0, 0, 2, 0) := by decide +kernel
theorem mX0_letterOf : mdT 10 = (1, 3, 2, 0) := by decide +kernel
theorem mX0_areSound : mdT 11 = (0, 2, 3, 0) := by decide +kernel
theorem mX1_giveAll : mdT 12 = (1, 0, 3, 1) := by decide +kernel
theorem mX1_localInputs : mdT 13 = (1, 1, 2, 1) := by decide +kernel
theorem mX1_stationInputs : mdT 14 = (1, 1, 2, 1) := by decide +kernel
theorem mX1_forgetLosses : mdT 15 = (0, 0, 1, 1) := by decide +kernel
theorem mX2_clear : mdT 16 = (0, 0, 1, 2) := by decide +kernel
theorem mX2_copyFrom : mdT 17 = (1, 0, 3, 2) := by decide +kernel
theorem mX2_hasRung : mdT 18 = (1, 2, 2, 2) := by decide +kernel
theorem mX2_hasStep : mdT 19 = (1, 2, 2, 2) := by decide +kernel
theorem mX2_hasStepOrNone : mdT 20 = (1, 2, 2, 2) := by decide +kernel
theorem mX2_stepMask : mdT 21 = (0, 1, 1, 2) := by decide +kernel
theorem mX3_copyFrom : mdT 22 = (1, 0, 3, 3) := by decide +kernel
theorem mX3_hasSameContact : mdT 23 = (2, 2, 3, 3) := by decide +kernel
theorem mX3_isSameCounter : mdT 24 = (1, 2, 2, 3) := by decide +kernel
theorem mX4_clear : mdT 25 = (0, 0, 1, 4) := by decide +kernel
theorem mX4_follow : mdT 26 = (1, 0, 2, 4) := by decide +kernel
theorem mX4_endComing : mdT 27 = (0, 0, 1, 4) := by decide +kernel
theorem mX5_clear : mdT 28 = (1, 0, 3, 5) := by decide +kernel
theorem mX5_copyFrom : mdT 29 = (1, 0, 2, 5) := by decide +kernel
theorem mX5_didHold : mdT 30 = (1, 2, 2, 5) := by decide +kernel
theorem mX5_keepHolding : mdT 31 = (2, 0, 3, 5) := by decide +kernel
theorem mX5_write : mdT 32 = (2, 0, 3, 5) := by decide +kernel
theorem mX6_copyFrom : mdT 33 = (1, 0, 3, 6) := by decide +kernel
theorem mX7_isDueAt : mdT 34 = (1, 2, 2, 7) := by decide +kernel
theorem mX8_copyFrom : mdT 35 = (1, 0, 2, 8) := by decide +kernel
theorem mX9_rung : mdT 36 = (4, 1, 6, 9) := by decide +kernel
theorem mX9_contact : mdT 37 = (3, 1, 5, 9) := by decide +kernel
theorem mX9_step : mdT 38 = (0, 1, 1, 9) := by decide +kernel
theorem mX9_action : mdT 39 = (4, 1, 6, 9) := by decide +kernel
theorem mX9_transition : mdT 40 = (6, 1, 8, 9) := by decide +kernel
theorem mX9_emptyDraft : mdT 41 = (0, 1, 2, 9) := by decide +kernel
theorem mX9_takeOver : mdT 42 = (0, 1, 2, 9) := by decide +kernel
theorem mX9_setInput : mdT 43 = (2, 2, 4, 9) := by decide +kernel
theorem mX9_force : mdT 44 = (2, 1, 5, 9) := by decide +kernel
theorem mX9_setPeriod : mdT 45 = (2, 1, 4, 9) := by decide +kernel
theorem mX9_setStart : mdT 46 = (1, 1, 3, 9) := by decide +kernel
theorem mX9_setWatch : mdT 47 = (2, 1, 4, 9) := by decide +kernel
theorem mX9_lose : mdT 48 = (1, 1, 3, 9) := by decide +kernel
theorem mX9_setHold : mdT 49 = (1, 1, 3, 9) := by decide +kernel
theorem mX9_pass : mdT 50 = (1, 1, 3, 9) := by decide +kernel
theorem mX9_acknowledge : mdT 51 = (1, 2, 3, 9) := by decide +kernel
theorem mX9_shelve : mdT 52 = (2, 1, 4, 9) := by decide +kernel
theorem mX9_fail : mdT 53 = (0, 2, 2, 9) := by decide +kernel
theorem mX9_come : mdT 54 = (0, 2, 1, 9) := by decide +kernel
theorem mX9_reset : mdT 55 = (0, 1, 1, 9) := by decide +kernel
theorem mX9_bit : mdT 56 = (1, 1, 2, 9) := by decide +kernel
theorem mX9_given : mdT 57 = (1, 1, 2, 9) := by decide +kernel
theorem mX9_number : mdT 58 = (1, 1, 2, 9) := by decide +kernel
theorem mX9_timer : mdT 59 = (1, 1, 2, 9) := by decide +kernel
theorem mX9_isActive : mdT 60 = (1, 2, 2, 9) := by decide +kernel
theorem mX9_stepTime : mdT 61 = (1, 1, 2, 9) := by decide +kernel
theorem mX9_alarm : mdT 62 = (1, 3, 2, 9) := by decide +kernel
theorem mX9_alarms : mdT 63 = (0, 1, 1, 9) := by decide +kernel
theorem mX9_alarmAt : mdT 64 = (1, 1, 2, 9) := by decide +kernel
theorem mX9_time : mdT 65 = (0, 1, 1, 9) := by decide +kernel
theorem mX9_scans : mdT 66 = (1, 1, 2, 9) := by decide +kernel
theorem mX9_missed : mdT 67 = (1, 1, 2, 9) := by decide +kernel
theorem mX9_isStopped : mdT 68 = (0, 2, 1, 9) := by decide +kernel
theorem mX9_isInStep : mdT 69 = (0, 2, 1, 9) := by decide +kernel
theorem mX9_rungs : mdT 70 = (0, 1, 1, 9) := by decide +kernel
theorem mX9_changes : mdT 71 = (1, 1, 2, 9) := by decide +kernel
theorem mX9_done : mdT 72 = (0, 5, 1, 9) := by decide +kernel
theorem mX9_isSound : mdT 73 = (0, 2, 2, 9) := by decide +kernel
theorem mX9_require : mdT 74 = (1, 0, 1, 100) := by decide +kernel
theorem mX9_isBetween : mdT 75 = (3, 2, 3, 100) := by decide +kernel
theorem mX9_isTask : mdT 76 = (1, 2, 1, 100) := by decide +kernel
theorem mX9_isOfEight : mdT 77 = (1, 2, 1, 100) := by decide +kernel
theorem mX9_isBit : mdT 78 = (1, 2, 1, 100) := by decide +kernel
theorem mX9_isWritable : mdT 79 = (1, 2, 1, 100) := by decide +kernel
theorem mX9_isStep : mdT 80 = (1, 2, 1, 100) := by decide +kernel
theorem mX9_isFirstNumber : mdT 81 = (2, 2, 2, 100) := by decide +kernel
theorem mX9_isSecondNumber : mdT 82 = (2, 2, 2, 100) := by decide +kernel
theorem mX9_isSet : mdT 83 = (2, 2, 2, 100) := by decide +kernel
theorem mX9_maskOf : mdT 84 = (1, 1, 1, 100) := by decide +kernel
theorem mX9_outputsOf : mdT 85 = (1, 1, 1, 100) := by decide +kernel
theorem mX9_readBits : mdT 86 = (0, 1, 1, 9) := by decide +kernel
theorem mX9_keepWhatWasSeen : mdT 87 = (0, 0, 4, 9) := by decide +kernel
theorem mX9_sameContacts : mdT 88 = (2, 1, 4, 100) := by decide +kernel
theorem mX9_passOneUnit : mdT 89 = (0, 0, 3, 9) := by decide +kernel
theorem mX9_lookAtStart : mdT 90 = (0, 2, 3, 9) := by decide +kernel
theorem mX9_scanTask : mdT 91 = (1, 0, 4, 9) := by decide +kernel
theorem mX9_countMissed : mdT 92 = (1, 0, 2, 9) := by decide +kernel
theorem mX9_stopAll : mdT 93 = (0, 0, 1, 9) := by decide +kernel
theorem mX9_doRungs : mdT 94 = (2, 1, 8, 9) := by decide +kernel
theorem mX9_lookAtContacts : mdT 95 = (2, 2, 9, 9) := by decide +kernel
theorem mX9_doesHold : mdT 96 = (3, 2, 3, 100) := by decide +kernel
theorem mX9_doRung : mdT 97 = (4, 0, 5, 9) := by decide +kernel
theorem mX9_doIfHeld : mdT 98 = (1, 0, 2, 9) := by decide +kernel
theorem mX9_runTimer : mdT 99 = (4, 0, 6, 9) := by decide +kernel
theorem mX9_runChart : mdT 100 = (1, 0, 7, 9) := by decide +kernel
theorem mX9_fireTransitions : mdT 101 = (0, 1, 6, 9) := by decide +kernel
theorem mX9_areActive : mdT 102 = (1, 2, 2, 9) := by decide +kernel
theorem mX9_clearActions : mdT 103 = (1, 0, 4, 9) := by decide +kernel
theorem mX9_doActions : mdT 104 = (3, 0, 6, 9) := by decide +kernel
theorem mJ0_length_8abf5 : mdT 105 = (0, 1, 1, 101) := by decide +kernel
theorem mJ0_charAt_5068e : mdT 106 = (1, 3, 2, 101) := by decide +kernel
theorem mJ0_indexOf_0f7a4 : mdT 107 = (1, 1, 2, 101) := by decide +kernel
theorem mJ0_indexOf_7cf53 : mdT 108 = (2, 1, 3, 101) := by decide +kernel
theorem mJ0_coder_7d493 : mdT 109 = (0, 4, 1, 101) := by decide +kernel
theorem mJ0_isLatin1_aae02 : mdT 110 = (0, 2, 1, 101) := by decide +kernel
theorem mJ0_checkIndex_df160 : mdT 111 = (2, 0, 2, 100) := by decide +kernel
theorem mJ1_charAt_3b067 : mdT 112 = (2, 3, 2, 100) := by decide +kernel
theorem mJ1_canEncode_9a6ad : mdT 113 = (1, 2, 1, 100) := by decide +kernel
theorem mJ1_indexOf_4cfef : mdT 114 = (4, 1, 4, 100) := by decide +kernel
theorem mJ1_indexOfChar_4cfef : mdT 115 = (4, 1, 6, 100) := by decide +kernel
theorem mJ3_checkIndex_8e157 : mdT 116 = (3, 1, 3, 100) := by decide +kernel
theorem mL_cell : mdT 117 = (2, 1, 3, 100) := by decide +kernel
theorem mL_pick : mdT 118 = (3, 1, 3, 100) := by decide +kernel
theorem mL_told : mdT 119 = (1, 1, 1, 100) := by decide +kernel
theorem mL_plain : mdT 120 = (8, 1, 8, 100) := by decide +kernel
theorem mL_ask : mdT 121 = (3, 1, 3, 100) := by decide +kernel
theorem mL_input : mdT 122 = (3, 0, 3, 100) := by decide +kernel
theorem mL_build : mdT 123 = (3, 0, 11, 100) := by decide +kernel
theorem mL_all : mdT 124 = (1, 5, 4, 100) := by decide +kernel
theorem mL_isWhole : mdT 125 = (1, 2, 6, 100) := by decide +kernel
theorem mL_happens : mdT 126 = (3, 0, 3, 100) := by decide +kernel
