theorem dX0_init_0 : decode cX0_init 0 = .ok (.aload_n 0, 1) := by decide +kernel
theorem dX0_init_1 : decode cX0_init 1 = .ok (.invokespecial 3, 3) := by decide +kernel
theorem dX0_init_4 : decode cX0_init 4 = .ok (.aload_n 0, 1) := by decide +kernel
theorem dX0_init_5 : decode cX0_init 5 = .ok (.bipush 8, 2) := by decide +kernel
theorem dX0_init_7 : decode cX0_init 7 = .ok (.newarray .int, 2) := by decide +kernel
theorem dX0_init_9 : decode cX0_init 9 = .ok (.putfield 9, 3) := by decide +kernel
theorem dX0_init_12 : decode cX0_init 12 = .ok (.aload_n 0, 1) := by decide +kernel
theorem dX0_init_13 : decode cX0_init 13 = .ok (.bipush 8, 2) := by decide +kernel
theorem dX0_init_15 : decode cX0_init 15 = .ok (.newarray .int, 2) := by decide +kernel
theorem dX0_init_17 : decode cX0_init 17 = .ok (.putfield 15, 3) := by decide +kernel
theorem dX0_init_20 : decode cX0_init 20 = .ok (.return_, 1) := by decide +kernel
theorem dX0_clear_0 : decode cX0_clear 0 = .ok (.aload_n 0, 1) := by decide +kernel
theorem dX0_clear_1 : decode cX0_clear 1 = .ok (.iconst 0, 1) := by decide +kernel
theorem dX0_clear_2 : decode cX0_clear 2 = .ok (.putfield 18, 3) := by decide +kernel
theorem dX0_clear_5 : decode cX0_clear 5 = .ok (.aload_n 0, 1) := by decide +kernel
theorem dX0_clear_6 : decode cX0_clear 6 = .ok (.iconst 0, 1) := by decide +kernel
theorem dX0_clear_7 : decode cX0_clear 7 = .ok (.putfield 22, 3) := by decide +kernel
theorem dX0_clear_10 : decode cX0_clear 10 = .ok (.iconst 0, 1) := by decide +kernel
theorem dX0_clear_11 : decode cX0_clear 11 = .ok (.istore_n 1, 1) := by decide +kernel
theorem dX0_clear_12 : decode cX0_clear 12 = .ok (.iload_n 1, 1) := by decide +kernel
theorem dX0_clear_13 : decode cX0_clear 13 = .ok (.bipush 8, 2) := by decide +kernel
theorem dX0_clear_15 : decode cX0_clear 15 = .ok (.if_icmp .ge 16, 3) := by decide +kernel
theorem dX0_clear_18 : decode cX0_clear 18 = .ok (.aload_n 0, 1) := by decide +kernel
theorem dX0_clear_19 : decode cX0_clear 19 = .ok (.getfield 9, 3) := by decide +kernel
theorem dX0_clear_22 : decode cX0_clear 22 = .ok (.iload_n 1, 1) := by decide +kernel
theorem dX0_clear_23 : decode cX0_clear 23 = .ok (.iconst 0, 1) := by decide +kernel
theorem dX0_clear_24 : decode cX0_clear 24 = .ok (.iastore, 1) := by decide +kernel
theorem dX0_clear_25 : decode cX0_clear 25 = .ok (.iinc 1 1, 3) := by decide +kernel
theorem dX0_clear_28 : decode cX0_clear 28 = .ok (.goto (-16), 3) := by decide +kernel
theorem dX0_clear_31 : decode cX0_clear 31 = .ok (.aload_n 0, 1) := by decide +kernel
theorem dX0_clear_32 : decode cX0_clear 32 = .ok (.iconst 0, 1) := by decide +kernel
theorem dX0_clear_33 : decode cX0_clear 33 = .ok (.putfield 25, 3) := by decide +kernel
theorem dX0_clear_36 : decode cX0_clear 36 = .ok (.return_, 1) := by decide +kernel
theorem dX0_copyFrom_0 : decode cX0_copyFrom 0 = .ok (.aload_n 0, 1) := by decide +kernel
theorem dX0_copyFrom_1 : decode cX0_copyFrom 1 = .ok (.aload_n 1, 1) := by decide +kernel
theorem dX0_copyFrom_2 : decode cX0_copyFrom 2 = .ok (.getfield 18, 3) := by decide +kernel
theorem dX0_copyFrom_5 : decode cX0_copyFrom 5 = .ok (.putfield 18, 3) := by decide +kernel
theorem dX0_copyFrom_8 : decode cX0_copyFrom 8 = .ok (.aload_n 0, 1) := by decide +kernel
theorem dX0_copyFrom_9 : decode cX0_copyFrom 9 = .ok (.aload_n 1, 1) := by decide +kernel
theorem dX0_copyFrom_10 : decode cX0_copyFrom 10 = .ok (.getfield 22, 3) := by decide +kernel
theorem dX0_copyFrom_13 : decode cX0_copyFrom 13 = .ok (.putfield 22, 3) := by decide +kernel
theorem dX0_copyFrom_16 : decode cX0_copyFrom 16 = .ok (.aload_n 1, 1) := by decide +kernel
theorem dX0_copyFrom_17 : decode cX0_copyFrom 17 = .ok (.getfield 9, 3) := by decide +kernel
theorem dX0_copyFrom_20 : decode cX0_copyFrom 20 = .ok (.iconst 0, 1) := by decide +kernel
theorem dX0_copyFrom_21 : decode cX0_copyFrom 21 = .ok (.aload_n 0, 1) := by decide +kernel
theorem dX0_copyFrom_22 : decode cX0_copyFrom 22 = .ok (.getfield 9, 3) := by decide +kernel
theorem dX0_copyFrom_25 : decode cX0_copyFrom 25 = .ok (.iconst 0, 1) := by decide +kernel
theorem dX0_copyFrom_26 : decode cX0_copyFrom 26 = .ok (.bipush 8, 2) := by decide +kernel
theorem dX0_copyFrom_28 : decode cX0_copyFrom 28 = .ok (.invokestatic 28, 3) := by decide +kernel
theorem dX0_copyFrom_31 : decode cX0_copyFrom 31 = .ok (.aload_n 1, 1) := by decide +kernel
theorem dX0_copyFrom_32 : decode cX0_copyFrom 32 = .ok (.getfield 15, 3) := by decide +kernel
theorem dX0_copyFrom_35 : decode cX0_copyFrom 35 = .ok (.iconst 0, 1) := by decide +kernel
theorem dX0_copyFrom_36 : decode cX0_copyFrom 36 = .ok (.aload_n 0, 1) := by decide +kernel
theorem dX0_copyFrom_37 : decode cX0_copyFrom 37 = .ok (.getfield 15, 3) := by decide +kernel
theorem dX0_copyFrom_40 : decode cX0_copyFrom 40 = .ok (.iconst 0, 1) := by decide +kernel
theorem dX0_copyFrom_41 : decode cX0_copyFrom 41 = .ok (.bipush 8, 2) := by decide +kernel
theorem dX0_copyFrom_43 : decode cX0_copyFrom 43 = .ok (.invokestatic 28, 3) := by decide +kernel
theorem dX0_copyFrom_46 : decode cX0_copyFrom 46 = .ok (.aload_n 0, 1) := by decide +kernel
theorem dX0_copyFrom_47 : decode cX0_copyFrom 47 = .ok (.aload_n 1, 1) := by decide +kernel
theorem dX0_copyFrom_48 : decode cX0_copyFrom 48 = .ok (.getfield 25, 3) := by decide +kernel
theorem dX0_copyFrom_51 : decode cX0_copyFrom 51 = .ok (.putfield 25, 3) := by decide +kernel
theorem dX0_copyFrom_54 : decode cX0_copyFrom 54 = .ok (.return_, 1) := by decide +kernel
theorem dX0_timesInRow_0 : decode cX0_timesInRow 0 = .ok (.iconst 0, 1) := by decide +kernel
theorem dX0_timesInRow_1 : decode cX0_timesInRow 1 = .ok (.istore_n 2, 1) := by decide +kernel
theorem dX0_timesInRow_2 : decode cX0_timesInRow 2 = .ok (.iconst 0, 1) := by decide +kernel
theorem dX0_timesInRow_3 : decode cX0_timesInRow 3 = .ok (.istore_n 3, 1) := by decide +kernel
theorem dX0_timesInRow_4 : decode cX0_timesInRow 4 = .ok (.iload_n 3, 1) := by decide +kernel
theorem dX0_timesInRow_5 : decode cX0_timesInRow 5 = .ok (.aload_n 0, 1) := by decide +kernel
theorem dX0_timesInRow_6 : decode cX0_timesInRow 6 = .ok (.getfield 25, 3) := by decide +kernel
theorem dX0_timesInRow_9 : decode cX0_timesInRow 9 = .ok (.if_icmp .ge 22, 3) := by decide +kernel
theorem dX0_timesInRow_12 : decode cX0_timesInRow 12 = .ok (.aload_n 0, 1) := by decide +kernel
theorem dX0_timesInRow_13 : decode cX0_timesInRow 13 = .ok (.getfield 15, 3) := by decide +kernel
theorem dX0_timesInRow_16 : decode cX0_timesInRow 16 = .ok (.iload_n 3, 1) := by decide +kernel
theorem dX0_timesInRow_17 : decode cX0_timesInRow 17 = .ok (.iaload, 1) := by decide +kernel
theorem dX0_timesInRow_18 : decode cX0_timesInRow 18 = .ok (.iload_n 1, 1) := by decide +kernel
theorem dX0_timesInRow_19 : decode cX0_timesInRow 19 = .ok (.if_icmp .ne 6, 3) := by decide +kernel
theorem dX0_timesInRow_22 : decode cX0_timesInRow 22 = .ok (.iinc 2 1, 3) := by decide +kernel
theorem dX0_timesInRow_25 : decode cX0_timesInRow 25 = .ok (.iinc 3 1, 3) := by decide +kernel
theorem dX0_timesInRow_28 : decode cX0_timesInRow 28 = .ok (.goto (-24), 3) := by decide +kernel
theorem dX0_timesInRow_31 : decode cX0_timesInRow 31 = .ok (.iload_n 2, 1) := by decide +kernel
theorem dX0_timesInRow_32 : decode cX0_timesInRow 32 = .ok (.ireturn, 1) := by decide +kernel
theorem dX0_enterRow_0 : decode cX0_enterRow 0 = .ok (.iconst 0, 1) := by decide +kernel
theorem dX0_enterRow_1 : decode cX0_enterRow 1 = .ok (.istore_n 2, 1) := by decide +kernel
theorem dX0_enterRow_2 : decode cX0_enterRow 2 = .ok (.iload_n 2, 1) := by decide +kernel
theorem dX0_enterRow_3 : decode cX0_enterRow 3 = .ok (.aload_n 0, 1) := by decide +kernel
theorem dX0_enterRow_4 : decode cX0_enterRow 4 = .ok (.getfield 25, 3) := by decide +kernel
theorem dX0_enterRow_7 : decode cX0_enterRow 7 = .ok (.if_icmp .ge 20, 3) := by decide +kernel
theorem dX0_enterRow_10 : decode cX0_enterRow 10 = .ok (.aload_n 0, 1) := by decide +kernel
theorem dX0_enterRow_11 : decode cX0_enterRow 11 = .ok (.getfield 15, 3) := by decide +kernel
theorem dX0_enterRow_14 : decode cX0_enterRow 14 = .ok (.iload_n 2, 1) := by decide +kernel
theorem dX0_enterRow_15 : decode cX0_enterRow 15 = .ok (.iaload, 1) := by decide +kernel
theorem dX0_enterRow_16 : decode cX0_enterRow 16 = .ok (.iload_n 1, 1) := by decide +kernel
theorem dX0_enterRow_17 : decode cX0_enterRow 17 = .ok (.if_icmp .ne 4, 3) := by decide +kernel
theorem dX0_enterRow_20 : decode cX0_enterRow 20 = .ok (.return_, 1) := by decide +kernel
theorem dX0_enterRow_21 : decode cX0_enterRow 21 = .ok (.iinc 2 1, 3) := by decide +kernel
theorem dX0_enterRow_24 : decode cX0_enterRow 24 = .ok (.goto (-22), 3) := by decide +kernel
theorem dX0_enterRow_27 : decode cX0_enterRow 27 = .ok (.aload_n 0, 1) := by decide +kernel
theorem dX0_enterRow_28 : decode cX0_enterRow 28 = .ok (.getfield 25, 3) := by decide +kernel
theorem dX0_enterRow_31 : decode cX0_enterRow 31 = .ok (.bipush 8, 2) := by decide +kernel
theorem dX0_enterRow_33 : decode cX0_enterRow 33 = .ok (.if_icmp .ge 23, 3) := by decide +kernel
theorem dX0_enterRow_36 : decode cX0_enterRow 36 = .ok (.aload_n 0, 1) := by decide +kernel
theorem dX0_enterRow_37 : decode cX0_enterRow 37 = .ok (.getfield 15, 3) := by decide +kernel
theorem dX0_enterRow_40 : decode cX0_enterRow 40 = .ok (.aload_n 0, 1) := by decide +kernel
theorem dX0_enterRow_41 : decode cX0_enterRow 41 = .ok (.getfield 25, 3) := by decide +kernel
theorem dX0_enterRow_44 : decode cX0_enterRow 44 = .ok (.iload_n 1, 1) := by decide +kernel
theorem dX0_enterRow_45 : decode cX0_enterRow 45 = .ok (.iastore, 1) := by decide +kernel
theorem dX0_enterRow_46 : decode cX0_enterRow 46 = .ok (.aload_n 0, 1) := by decide +kernel
theorem dX0_enterRow_47 : decode cX0_enterRow 47 = .ok (.dup, 1) := by decide +kernel
theorem dX0_enterRow_48 : decode cX0_enterRow 48 = .ok (.getfield 25, 3) := by decide +kernel
theorem dX0_enterRow_51 : decode cX0_enterRow 51 = .ok (.iconst 1, 1) := by decide +kernel
theorem dX0_enterRow_52 : decode cX0_enterRow 52 = .ok (.iadd, 1) := by decide +kernel
theorem dX0_enterRow_53 : decode cX0_enterRow 53 = .ok (.putfield 25, 3) := by decide +kernel
theorem dX0_enterRow_56 : decode cX0_enterRow 56 = .ok (.return_, 1) := by decide +kernel
theorem dX0_leaveRow_0 : decode cX0_leaveRow 0 = .ok (.iconst 0, 1) := by decide +kernel
theorem dX0_leaveRow_1 : decode cX0_leaveRow 1 = .ok (.istore_n 2, 1) := by decide +kernel
theorem dX0_leaveRow_2 : decode cX0_leaveRow 2 = .ok (.iconst 0, 1) := by decide +kernel
theorem dX0_leaveRow_3 : decode cX0_leaveRow 3 = .ok (.istore_n 3, 1) := by decide +kernel
theorem dX0_leaveRow_4 : decode cX0_leaveRow 4 = .ok (.iload_n 3, 1) := by decide +kernel
theorem dX0_leaveRow_5 : decode cX0_leaveRow 5 = .ok (.aload_n 0, 1) := by decide +kernel
theorem dX0_leaveRow_6 : decode cX0_leaveRow 6 = .ok (.getfield 25, 3) := by decide +kernel
theorem dX0_leaveRow_9 : decode cX0_leaveRow 9 = .ok (.if_icmp .ge 34, 3) := by decide +kernel
theorem dX0_leaveRow_12 : decode cX0_leaveRow 12 = .ok (.aload_n 0, 1) := by decide +kernel
theorem dX0_leaveRow_13 : decode cX0_leaveRow 13 = .ok (.getfield 15, 3) := by decide +kernel
theorem dX0_leaveRow_16 : decode cX0_leaveRow 16 = .ok (.iload_n 3, 1) := by decide +kernel
theorem dX0_leaveRow_17 : decode cX0_leaveRow 17 = .ok (.iaload, 1) := by decide +kernel
theorem dX0_leaveRow_18 : decode cX0_leaveRow 18 = .ok (.iload_n 1, 1) := by decide +kernel
theorem dX0_leaveRow_19 : decode cX0_leaveRow 19 = .ok (.if_icmp .eq 18, 3) := by decide +kernel
theorem dX0_leaveRow_22 : decode cX0_leaveRow 22 = .ok (.aload_n 0, 1) := by decide +kernel
theorem dX0_leaveRow_23 : decode cX0_leaveRow 23 = .ok (.getfield 15, 3) := by decide +kernel
theorem dX0_leaveRow_26 : decode cX0_leaveRow 26 = .ok (.iload_n 2, 1) := by decide +kernel
theorem dX0_leaveRow_27 : decode cX0_leaveRow 27 = .ok (.aload_n 0, 1) := by decide +kernel
theorem dX0_leaveRow_28 : decode cX0_leaveRow 28 = .ok (.getfield 15, 3) := by decide +kernel
theorem dX0_leaveRow_31 : decode cX0_leaveRow 31 = .ok (.iload_n 3, 1) := by decide +kernel
theorem dX0_leaveRow_32 : decode cX0_leaveRow 32 = .ok (.iaload, 1) := by decide +kernel
theorem dX0_leaveRow_33 : decode cX0_leaveRow 33 = .ok (.iastore, 1) := by decide +kernel
theorem dX0_leaveRow_34 : decode cX0_leaveRow 34 = .ok (.iinc 2 1, 3) := by decide +kernel
theorem dX0_leaveRow_37 : decode cX0_leaveRow 37 = .ok (.iinc 3 1, 3) := by decide +kernel
theorem dX0_leaveRow_40 : decode cX0_leaveRow 40 = .ok (.goto (-36), 3) := by decide +kernel
theorem dX0_leaveRow_43 : decode cX0_leaveRow 43 = .ok (.aload_n 0, 1) := by decide +kernel
theorem dX0_leaveRow_44 : decode cX0_leaveRow 44 = .ok (.iload_n 2, 1) := by decide +kernel
theorem dX0_leaveRow_45 : decode cX0_leaveRow 45 = .ok (.putfield 25, 3) := by decide +kernel
theorem dX0_leaveRow_48 : decode cX0_leaveRow 48 = .ok (.aload_n 0, 1) := by decide +kernel
theorem dX0_leaveRow_49 : decode cX0_leaveRow 49 = .ok (.dup, 1) := by decide +kernel
theorem dX0_leaveRow_50 : decode cX0_leaveRow 50 = .ok (.getfield 22, 3) := by decide +kernel
theorem dX0_leaveRow_53 : decode cX0_leaveRow 53 = .ok (.iconst 1, 1) := by decide +kernel
theorem dX0_leaveRow_54 : decode cX0_leaveRow 54 = .ok (.iload_n 1, 1) := by decide +kernel
theorem dX0_leaveRow_55 : decode cX0_leaveRow 55 = .ok (.ishl, 1) := by decide +kernel
theorem dX0_leaveRow_56 : decode cX0_leaveRow 56 = .ok (.iconst (-1), 1) := by decide +kernel
theorem dX0_leaveRow_57 : decode cX0_leaveRow 57 = .ok (.ixor, 1) := by decide +kernel
theorem dX0_leaveRow_58 : decode cX0_leaveRow 58 = .ok (.iand, 1) := by decide +kernel
theorem dX0_leaveRow_59 : decode cX0_leaveRow 59 = .ok (.putfield 22, 3) := by decide +kernel
theorem dX0_leaveRow_62 : decode cX0_leaveRow 62 = .ok (.return_, 1) := by decide +kernel
theorem dX0_appear_0 : decode cX0_appear 0 = .ok (.aload_n 0, 1) := by decide +kernel
theorem dX0_appear_1 : decode cX0_appear 1 = .ok (.getfield 18, 3) := by decide +kernel
theorem dX0_appear_4 : decode cX0_appear 4 = .ok (.iload_n 1, 1) := by decide +kernel
theorem dX0_appear_5 : decode cX0_appear 5 = .ok (.invokestatic 34, 3) := by decide +kernel
theorem dX0_appear_8 : decode cX0_appear 8 = .ok (.ifCond .ne 29, 3) := by decide +kernel
theorem dX0_appear_11 : decode cX0_appear 11 = .ok (.aload_n 0, 1) := by decide +kernel
theorem dX0_appear_12 : decode cX0_appear 12 = .ok (.dup, 1) := by decide +kernel
theorem dX0_appear_13 : decode cX0_appear 13 = .ok (.getfield 18, 3) := by decide +kernel
theorem dX0_appear_16 : decode cX0_appear 16 = .ok (.iconst 1, 1) := by decide +kernel
theorem dX0_appear_17 : decode cX0_appear 17 = .ok (.iload_n 1, 1) := by decide +kernel
theorem dX0_appear_18 : decode cX0_appear 18 = .ok (.ishl, 1) := by decide +kernel
theorem dX0_appear_19 : decode cX0_appear 19 = .ok (.ior, 1) := by decide +kernel
theorem dX0_appear_20 : decode cX0_appear 20 = .ok (.putfield 18, 3) := by decide +kernel
theorem dX0_appear_23 : decode cX0_appear 23 = .ok (.aload_n 0, 1) := by decide +kernel
theorem dX0_appear_24 : decode cX0_appear 24 = .ok (.getfield 9, 3) := by decide +kernel
theorem dX0_appear_27 : decode cX0_appear 27 = .ok (.iload_n 1, 1) := by decide +kernel
theorem dX0_appear_28 : decode cX0_appear 28 = .ok (.iaload, 1) := by decide +kernel
theorem dX0_appear_29 : decode cX0_appear 29 = .ok (.ifCond .ne 8, 3) := by decide +kernel
theorem dX0_appear_32 : decode cX0_appear 32 = .ok (.aload_n 0, 1) := by decide +kernel
theorem dX0_appear_33 : decode cX0_appear 33 = .ok (.iload_n 1, 1) := by decide +kernel
theorem dX0_appear_34 : decode cX0_appear 34 = .ok (.invokevirtual 38, 3) := by decide +kernel
theorem dX0_appear_37 : decode cX0_appear 37 = .ok (.return_, 1) := by decide +kernel
theorem dX0_vanish_0 : decode cX0_vanish 0 = .ok (.aload_n 0, 1) := by decide +kernel
theorem dX0_vanish_1 : decode cX0_vanish 1 = .ok (.dup, 1) := by decide +kernel
theorem dX0_vanish_2 : decode cX0_vanish 2 = .ok (.getfield 18, 3) := by decide +kernel
theorem dX0_vanish_5 : decode cX0_vanish 5 = .ok (.iconst 1, 1) := by decide +kernel
theorem dX0_vanish_6 : decode cX0_vanish 6 = .ok (.iload_n 1, 1) := by decide +kernel
theorem dX0_vanish_7 : decode cX0_vanish 7 = .ok (.ishl, 1) := by decide +kernel
theorem dX0_vanish_8 : decode cX0_vanish 8 = .ok (.iconst (-1), 1) := by decide +kernel
theorem dX0_vanish_9 : decode cX0_vanish 9 = .ok (.ixor, 1) := by decide +kernel
theorem dX0_vanish_10 : decode cX0_vanish 10 = .ok (.iand, 1) := by decide +kernel
theorem dX0_vanish_11 : decode cX0_vanish 11 = .ok (.putfield 18, 3) := by decide +kernel
theorem dX0_vanish_14 : decode cX0_vanish 14 = .ok (.aload_n 0, 1) := by decide +kernel
theorem dX0_vanish_15 : decode cX0_vanish 15 = .ok (.getfield 22, 3) := by decide +kernel
theorem dX0_vanish_18 : decode cX0_vanish 18 = .ok (.iload_n 1, 1) := by decide +kernel
theorem dX0_vanish_19 : decode cX0_vanish 19 = .ok (.invokestatic 34, 3) := by decide +kernel
theorem dX0_vanish_22 : decode cX0_vanish 22 = .ok (.ifCond .eq 8, 3) := by decide +kernel
theorem dX0_vanish_25 : decode cX0_vanish 25 = .ok (.aload_n 0, 1) := by decide +kernel
theorem dX0_vanish_26 : decode cX0_vanish 26 = .ok (.iload_n 1, 1) := by decide +kernel
theorem dX0_vanish_27 : decode cX0_vanish 27 = .ok (.invokevirtual 42, 3) := by decide +kernel
theorem dX0_vanish_30 : decode cX0_vanish 30 = .ok (.return_, 1) := by decide +kernel
theorem dX0_confirm_0 : decode cX0_confirm 0 = .ok (.aload_n 0, 1) := by decide +kernel
theorem dX0_confirm_1 : decode cX0_confirm 1 = .ok (.getfield 18, 3) := by decide +kernel
theorem dX0_confirm_4 : decode cX0_confirm 4 = .ok (.iload_n 1, 1) := by decide +kernel
theorem dX0_confirm_5 : decode cX0_confirm 5 = .ok (.invokestatic 34, 3) := by decide +kernel
theorem dX0_confirm_8 : decode cX0_confirm 8 = .ok (.ifCond .eq 18, 3) := by decide +kernel
theorem dX0_confirm_11 : decode cX0_confirm 11 = .ok (.aload_n 0, 1) := by decide +kernel
theorem dX0_confirm_12 : decode cX0_confirm 12 = .ok (.dup, 1) := by decide +kernel
theorem dX0_confirm_13 : decode cX0_confirm 13 = .ok (.getfield 22, 3) := by decide +kernel
theorem dX0_confirm_16 : decode cX0_confirm 16 = .ok (.iconst 1, 1) := by decide +kernel
theorem dX0_confirm_17 : decode cX0_confirm 17 = .ok (.iload_n 1, 1) := by decide +kernel
theorem dX0_confirm_18 : decode cX0_confirm 18 = .ok (.ishl, 1) := by decide +kernel
theorem dX0_confirm_19 : decode cX0_confirm 19 = .ok (.ior, 1) := by decide +kernel
theorem dX0_confirm_20 : decode cX0_confirm 20 = .ok (.putfield 22, 3) := by decide +kernel
theorem dX0_confirm_23 : decode cX0_confirm 23 = .ok (.goto 8, 3) := by decide +kernel
theorem dX0_confirm_26 : decode cX0_confirm 26 = .ok (.aload_n 0, 1) := by decide +kernel
theorem dX0_confirm_27 : decode cX0_confirm 27 = .ok (.iload_n 1, 1) := by decide +kernel
theorem dX0_confirm_28 : decode cX0_confirm 28 = .ok (.invokevirtual 42, 3) := by decide +kernel
theorem dX0_confirm_31 : decode cX0_confirm 31 = .ok (.return_, 1) := by decide +kernel
theorem dX0_putAway_0 : decode cX0_putAway 0 = .ok (.aload_n 0, 1) := by decide +kernel
theorem dX0_putAway_1 : decode cX0_putAway 1 = .ok (.getfield 9, 3) := by decide +kernel
theorem dX0_putAway_4 : decode cX0_putAway 4 = .ok (.iload_n 1, 1) := by decide +kernel
theorem dX0_putAway_5 : decode cX0_putAway 5 = .ok (.iload_n 2, 1) := by decide +kernel
theorem dX0_putAway_6 : decode cX0_putAway 6 = .ok (.iastore, 1) := by decide +kernel
theorem dX0_putAway_7 : decode cX0_putAway 7 = .ok (.iload_n 2, 1) := by decide +kernel
theorem dX0_putAway_8 : decode cX0_putAway 8 = .ok (.ifCond .le 11, 3) := by decide +kernel
theorem dX0_putAway_11 : decode cX0_putAway 11 = .ok (.aload_n 0, 1) := by decide +kernel
theorem dX0_putAway_12 : decode cX0_putAway 12 = .ok (.iload_n 1, 1) := by decide +kernel
theorem dX0_putAway_13 : decode cX0_putAway 13 = .ok (.invokevirtual 42, 3) := by decide +kernel
theorem dX0_putAway_16 : decode cX0_putAway 16 = .ok (.goto 19, 3) := by decide +kernel
theorem dX0_putAway_19 : decode cX0_putAway 19 = .ok (.aload_n 0, 1) := by decide +kernel
theorem dX0_putAway_20 : decode cX0_putAway 20 = .ok (.getfield 18, 3) := by decide +kernel
theorem dX0_putAway_23 : decode cX0_putAway 23 = .ok (.iload_n 1, 1) := by decide +kernel
theorem dX0_putAway_24 : decode cX0_putAway 24 = .ok (.invokestatic 34, 3) := by decide +kernel
theorem dX0_putAway_27 : decode cX0_putAway 27 = .ok (.ifCond .eq 8, 3) := by decide +kernel
theorem dX0_putAway_30 : decode cX0_putAway 30 = .ok (.aload_n 0, 1) := by decide +kernel
theorem dX0_putAway_31 : decode cX0_putAway 31 = .ok (.iload_n 1, 1) := by decide +kernel
theorem dX0_putAway_32 : decode cX0_putAway 32 = .ok (.invokevirtual 38, 3) := by decide +kernel
theorem dX0_putAway_35 : decode cX0_putAway 35 = .ok (.return_, 1) := by decide +kernel
theorem dX0_shortenShelving_0 : decode cX0_shortenShelving 0 = .ok (.iconst 0, 1) := by decide +kernel
theorem dX0_shortenShelving_1 : decode cX0_shortenShelving 1 = .ok (.istore_n 1, 1) := by decide +kernel
theorem dX0_shortenShelving_2 : decode cX0_shortenShelving 2 = .ok (.iload_n 1, 1) := by decide +kernel
theorem dX0_shortenShelving_3 : decode cX0_shortenShelving 3 = .ok (.bipush 8, 2) := by decide +kernel
theorem dX0_shortenShelving_5 : decode cX0_shortenShelving 5 = .ok (.if_icmp .ge 53, 3) := by decide +kernel
theorem dX0_shortenShelving_8 : decode cX0_shortenShelving 8 = .ok (.aload_n 0, 1) := by decide +kernel
theorem dX0_shortenShelving_9 : decode cX0_shortenShelving 9 = .ok (.getfield 9, 3) := by decide +kernel
theorem dX0_shortenShelving_12 : decode cX0_shortenShelving 12 = .ok (.iload_n 1, 1) := by decide +kernel
theorem dX0_shortenShelving_13 : decode cX0_shortenShelving 13 = .ok (.iaload, 1) := by decide +kernel
theorem dX0_shortenShelving_14 : decode cX0_shortenShelving 14 = .ok (.ifCond .le 38, 3) := by decide +kernel
theorem dX0_shortenShelving_17 : decode cX0_shortenShelving 17 = .ok (.aload_n 0, 1) := by decide +kernel
theorem dX0_shortenShelving_18 : decode cX0_shortenShelving 18 = .ok (.getfield 9, 3) := by decide +kernel
theorem dX0_shortenShelving_21 : decode cX0_shortenShelving 21 = .ok (.iload_n 1, 1) := by decide +kernel
theorem dX0_shortenShelving_22 : decode cX0_shortenShelving 22 = .ok (.dup2, 1) := by decide +kernel
theorem dX0_shortenShelving_23 : decode cX0_shortenShelving 23 = .ok (.iaload, 1) := by decide +kernel
theorem dX0_shortenShelving_24 : decode cX0_shortenShelving 24 = .ok (.iconst 1, 1) := by decide +kernel
theorem dX0_shortenShelving_25 : decode cX0_shortenShelving 25 = .ok (.isub, 1) := by decide +kernel
theorem dX0_shortenShelving_26 : decode cX0_shortenShelving 26 = .ok (.iastore, 1) := by decide +kernel
theorem dX0_shortenShelving_27 : decode cX0_shortenShelving 27 = .ok (.aload_n 0, 1) := by decide +kernel
theorem dX0_shortenShelving_28 : decode cX0_shortenShelving 28 = .ok (.getfield 9, 3) := by decide +kernel
theorem dX0_shortenShelving_31 : decode cX0_shortenShelving 31 = .ok (.iload_n 1, 1) := by decide +kernel
theorem dX0_shortenShelving_32 : decode cX0_shortenShelving 32 = .ok (.iaload, 1) := by decide +kernel
theorem dX0_shortenShelving_33 : decode cX0_shortenShelving 33 = .ok (.ifCond .ne 19, 3) := by decide +kernel
theorem dX0_shortenShelving_36 : decode cX0_shortenShelving 36 = .ok (.aload_n 0, 1) := by decide +kernel
theorem dX0_shortenShelving_37 : decode cX0_shortenShelving 37 = .ok (.getfield 18, 3) := by decide +kernel
theorem dX0_shortenShelving_40 : decode cX0_shortenShelving 40 = .ok (.iload_n 1, 1) := by decide +kernel
theorem dX0_shortenShelving_41 : decode cX0_shortenShelving 41 = .ok (.invokestatic 34, 3) := by decide +kernel
theorem dX0_shortenShelving_44 : decode cX0_shortenShelving 44 = .ok (.ifCond .eq 8, 3) := by decide +kernel
theorem dX0_shortenShelving_47 : decode cX0_shortenShelving 47 = .ok (.aload_n 0, 1) := by decide +kernel
theorem dX0_shortenShelving_48 : decode cX0_shortenShelving 48 = .ok (.iload_n 1, 1) := by decide +kernel
theorem dX0_shortenShelving_49 : decode cX0_shortenShelving 49 = .ok (.invokevirtual 38, 3) := by decide +kernel
theorem dX0_shortenShelving_52 : decode cX0_shortenShelving 52 = .ok (.iinc 1 1, 3) := by decide +kernel
theorem dX0_shortenShelving_55 : decode cX0_shortenShelving 55 = .ok (.goto (-53), 3) := by decide +kernel
theorem dX0_shortenShelving_58 : decode cX0_shortenShelving 58 = .ok (.return_, 1) := by decide +kernel
theorem dX0_letterOf_0 : decode cX0_letterOf 0 = .ok (.aload_n 0, 1) := by decide +kernel
theorem dX0_letterOf_1 : decode cX0_letterOf 1 = .ok (.getfield 9, 3) := by decide +kernel
theorem dX0_letterOf_4 : decode cX0_letterOf 4 = .ok (.iload_n 1, 1) := by decide +kernel
theorem dX0_letterOf_5 : decode cX0_letterOf 5 = .ok (.iaload, 1) := by decide +kernel
theorem dX0_letterOf_6 : decode cX0_letterOf 6 = .ok (.ifCond .le 6, 3) := by decide +kernel
theorem dX0_letterOf_9 : decode cX0_letterOf 9 = .ok (.bipush 115, 2) := by decide +kernel
theorem dX0_letterOf_11 : decode cX0_letterOf 11 = .ok (.ireturn, 1) := by decide +kernel
theorem dX0_letterOf_12 : decode cX0_letterOf 12 = .ok (.aload_n 0, 1) := by decide +kernel
theorem dX0_letterOf_13 : decode cX0_letterOf 13 = .ok (.getfield 18, 3) := by decide +kernel
theorem dX0_letterOf_16 : decode cX0_letterOf 16 = .ok (.iload_n 1, 1) := by decide +kernel
theorem dX0_letterOf_17 : decode cX0_letterOf 17 = .ok (.invokestatic 34, 3) := by decide +kernel
theorem dX0_letterOf_20 : decode cX0_letterOf 20 = .ok (.ifCond .eq 22, 3) := by decide +kernel
theorem dX0_letterOf_23 : decode cX0_letterOf 23 = .ok (.aload_n 0, 1) := by decide +kernel
theorem dX0_letterOf_24 : decode cX0_letterOf 24 = .ok (.getfield 22, 3) := by decide +kernel
theorem dX0_letterOf_27 : decode cX0_letterOf 27 = .ok (.iload_n 1, 1) := by decide +kernel
theorem dX0_letterOf_28 : decode cX0_letterOf 28 = .ok (.invokestatic 34, 3) := by decide +kernel
theorem dX0_letterOf_31 : decode cX0_letterOf 31 = .ok (.ifCond .eq 8, 3) := by decide +kernel
theorem dX0_letterOf_34 : decode cX0_letterOf 34 = .ok (.bipush 97, 2) := by decide +kernel
theorem dX0_letterOf_36 : decode cX0_letterOf 36 = .ok (.goto 5, 3) := by decide +kernel
theorem dX0_letterOf_39 : decode cX0_letterOf 39 = .ok (.bipush 116, 2) := by decide +kernel
theorem dX0_letterOf_41 : decode cX0_letterOf 41 = .ok (.ireturn, 1) := by decide +kernel
theorem dX0_letterOf_42 : decode cX0_letterOf 42 = .ok (.aload_n 0, 1) := by decide +kernel
theorem dX0_letterOf_43 : decode cX0_letterOf 43 = .ok (.iload_n 1, 1) := by decide +kernel
theorem dX0_letterOf_44 : decode cX0_letterOf 44 = .ok (.invokevirtual 45, 3) := by decide +kernel
theorem dX0_letterOf_47 : decode cX0_letterOf 47 = .ok (.ifCond .le 8, 3) := by decide +kernel
theorem dX0_letterOf_50 : decode cX0_letterOf 50 = .ok (.bipush 114, 2) := by decide +kernel
theorem dX0_letterOf_52 : decode cX0_letterOf 52 = .ok (.goto 5, 3) := by decide +kernel
theorem dX0_letterOf_55 : decode cX0_letterOf 55 = .ok (.bipush 110, 2) := by decide +kernel
theorem dX0_letterOf_57 : decode cX0_letterOf 57 = .ok (.ireturn, 1) := by decide +kernel
theorem dX0_areSound_0 : decode cX0_areSound 0 = .ok (.iconst 0, 1) := by decide +kernel
theorem dX0_areSound_1 : decode cX0_areSound 1 = .ok (.istore_n 1, 1) := by decide +kernel
theorem dX0_areSound_2 : decode cX0_areSound 2 = .ok (.iload_n 1, 1) := by decide +kernel
theorem dX0_areSound_3 : decode cX0_areSound 3 = .ok (.bipush 8, 2) := by decide +kernel
theorem dX0_areSound_5 : decode cX0_areSound 5 = .ok (.if_icmp .ge 46, 3) := by decide +kernel
theorem dX0_areSound_8 : decode cX0_areSound 8 = .ok (.aload_n 0, 1) := by decide +kernel
theorem dX0_areSound_9 : decode cX0_areSound 9 = .ok (.iload_n 1, 1) := by decide +kernel
theorem dX0_areSound_10 : decode cX0_areSound 10 = .ok (.invokevirtual 45, 3) := by decide +kernel
theorem dX0_areSound_13 : decode cX0_areSound 13 = .ok (.istore_n 2, 1) := by decide +kernel
theorem dX0_areSound_14 : decode cX0_areSound 14 = .ok (.iload_n 2, 1) := by decide +kernel
theorem dX0_areSound_15 : decode cX0_areSound 15 = .ok (.iconst 1, 1) := by decide +kernel
theorem dX0_areSound_16 : decode cX0_areSound 16 = .ok (.if_icmp .gt 27, 3) := by decide +kernel
theorem dX0_areSound_19 : decode cX0_areSound 19 = .ok (.iload_n 2, 1) := by decide +kernel
theorem dX0_areSound_20 : decode cX0_areSound 20 = .ok (.ifCond .ne 25, 3) := by decide +kernel
theorem dX0_areSound_23 : decode cX0_areSound 23 = .ok (.aload_n 0, 1) := by decide +kernel
theorem dX0_areSound_24 : decode cX0_areSound 24 = .ok (.getfield 18, 3) := by decide +kernel
theorem dX0_areSound_27 : decode cX0_areSound 27 = .ok (.iload_n 1, 1) := by decide +kernel
theorem dX0_areSound_28 : decode cX0_areSound 28 = .ok (.invokestatic 34, 3) := by decide +kernel
theorem dX0_areSound_31 : decode cX0_areSound 31 = .ok (.ifCond .eq 14, 3) := by decide +kernel
theorem dX0_areSound_34 : decode cX0_areSound 34 = .ok (.aload_n 0, 1) := by decide +kernel
theorem dX0_areSound_35 : decode cX0_areSound 35 = .ok (.getfield 9, 3) := by decide +kernel
theorem dX0_areSound_38 : decode cX0_areSound 38 = .ok (.iload_n 1, 1) := by decide +kernel
theorem dX0_areSound_39 : decode cX0_areSound 39 = .ok (.iaload, 1) := by decide +kernel
theorem dX0_areSound_40 : decode cX0_areSound 40 = .ok (.ifCond .ne 5, 3) := by decide +kernel
theorem dX0_areSound_43 : decode cX0_areSound 43 = .ok (.iconst 0, 1) := by decide +kernel
theorem dX0_areSound_44 : decode cX0_areSound 44 = .ok (.ireturn, 1) := by decide +kernel
theorem dX0_areSound_45 : decode cX0_areSound 45 = .ok (.iinc 1 1, 3) := by decide +kernel
theorem dX0_areSound_48 : decode cX0_areSound 48 = .ok (.goto (-46), 3) := by decide +kernel
theorem dX0_areSound_51 : decode cX0_areSound 51 = .ok (.iconst 1, 1) := by decide +kernel
theorem dX0_areSound_52 : decode cX0_areSound 52 = .ok (.ireturn, 1) := by decide +kernel
theorem dX1_init_0 : decode cX1_init 0 = .ok (.aload_n 0, 1) := by decide +kernel
theorem dX1_init_1 : decode cX1_init 1 = .ok (.invokespecial 3, 3) := by decide +kernel
theorem dX1_init_4 : decode cX1_init 4 = .ok (.aload_n 0, 1) := by decide +kernel
theorem dX1_init_5 : decode cX1_init 5 = .ok (.bipush 8, 2) := by decide +kernel
theorem dX1_init_7 : decode cX1_init 7 = .ok (.newarray .int, 2) := by decide +kernel
theorem dX1_init_9 : decode cX1_init 9 = .ok (.putfield 9, 3) := by decide +kernel
theorem dX1_init_12 : decode cX1_init 12 = .ok (.aload_n 0, 1) := by decide +kernel
theorem dX1_init_13 : decode cX1_init 13 = .ok (.iconst 2, 1) := by decide +kernel
theorem dX1_init_14 : decode cX1_init 14 = .ok (.putfield 15, 3) := by decide +kernel
theorem dX1_init_17 : decode cX1_init 17 = .ok (.return_, 1) := by decide +kernel
theorem dX1_giveAll_0 : decode cX1_giveAll 0 = .ok (.iconst 0, 1) := by decide +kernel
theorem dX1_giveAll_1 : decode cX1_giveAll 1 = .ok (.istore_n 2, 1) := by decide +kernel
theorem dX1_giveAll_2 : decode cX1_giveAll 2 = .ok (.iload_n 2, 1) := by decide +kernel
theorem dX1_giveAll_3 : decode cX1_giveAll 3 = .ok (.bipush 8, 2) := by decide +kernel
theorem dX1_giveAll_5 : decode cX1_giveAll 5 = .ok (.if_icmp .ge 32, 3) := by decide +kernel
theorem dX1_giveAll_8 : decode cX1_giveAll 8 = .ok (.aload_n 0, 1) := by decide +kernel
theorem dX1_giveAll_9 : decode cX1_giveAll 9 = .ok (.getfield 19, 3) := by decide +kernel
theorem dX1_giveAll_12 : decode cX1_giveAll 12 = .ok (.iload_n 1, 1) := by decide +kernel
theorem dX1_giveAll_13 : decode cX1_giveAll 13 = .ok (.ixor, 1) := by decide +kernel
theorem dX1_giveAll_14 : decode cX1_giveAll 14 = .ok (.iload_n 2, 1) := by decide +kernel
theorem dX1_giveAll_15 : decode cX1_giveAll 15 = .ok (.invokestatic 22, 3) := by decide +kernel
theorem dX1_giveAll_18 : decode cX1_giveAll 18 = .ok (.ifCond .eq 13, 3) := by decide +kernel
theorem dX1_giveAll_21 : decode cX1_giveAll 21 = .ok (.aload_n 0, 1) := by decide +kernel
theorem dX1_giveAll_22 : decode cX1_giveAll 22 = .ok (.getfield 9, 3) := by decide +kernel
theorem dX1_giveAll_25 : decode cX1_giveAll 25 = .ok (.iload_n 2, 1) := by decide +kernel
theorem dX1_giveAll_26 : decode cX1_giveAll 26 = .ok (.dup2, 1) := by decide +kernel
theorem dX1_giveAll_27 : decode cX1_giveAll 27 = .ok (.iaload, 1) := by decide +kernel
theorem dX1_giveAll_28 : decode cX1_giveAll 28 = .ok (.iconst 1, 1) := by decide +kernel
theorem dX1_giveAll_29 : decode cX1_giveAll 29 = .ok (.iadd, 1) := by decide +kernel
theorem dX1_giveAll_30 : decode cX1_giveAll 30 = .ok (.iastore, 1) := by decide +kernel
theorem dX1_giveAll_31 : decode cX1_giveAll 31 = .ok (.iinc 2 1, 3) := by decide +kernel
theorem dX1_giveAll_34 : decode cX1_giveAll 34 = .ok (.goto (-32), 3) := by decide +kernel
theorem dX1_giveAll_37 : decode cX1_giveAll 37 = .ok (.aload_n 0, 1) := by decide +kernel
theorem dX1_giveAll_38 : decode cX1_giveAll 38 = .ok (.iload_n 1, 1) := by decide +kernel
theorem dX1_giveAll_39 : decode cX1_giveAll 39 = .ok (.putfield 19, 3) := by decide +kernel
theorem dX1_giveAll_42 : decode cX1_giveAll 42 = .ok (.return_, 1) := by decide +kernel
theorem dX1_localInputs_0 : decode cX1_localInputs 0 = .ok (.iload_n 1, 1) := by decide +kernel
theorem dX1_localInputs_1 : decode cX1_localInputs 1 = .ok (.bipush (-16), 2) := by decide +kernel
theorem dX1_localInputs_3 : decode cX1_localInputs 3 = .ok (.iand, 1) := by decide +kernel
theorem dX1_localInputs_4 : decode cX1_localInputs 4 = .ok (.aload_n 0, 1) := by decide +kernel
theorem dX1_localInputs_5 : decode cX1_localInputs 5 = .ok (.getfield 26, 3) := by decide +kernel
theorem dX1_localInputs_8 : decode cX1_localInputs 8 = .ok (.bipush 15, 2) := by decide +kernel
theorem dX1_localInputs_10 : decode cX1_localInputs 10 = .ok (.iand, 1) := by decide +kernel
theorem dX1_localInputs_11 : decode cX1_localInputs 11 = .ok (.ior, 1) := by decide +kernel
theorem dX1_localInputs_12 : decode cX1_localInputs 12 = .ok (.ireturn, 1) := by decide +kernel
theorem dX1_stationInputs_0 : decode cX1_stationInputs 0 = .ok (.aload_n 0, 1) := by decide +kernel
theorem dX1_stationInputs_1 : decode cX1_stationInputs 1 = .ok (.getfield 29, 3) := by decide +kernel
theorem dX1_stationInputs_4 : decode cX1_stationInputs 4 = .ok (.ifCond .ne 23, 3) := by decide +kernel
theorem dX1_stationInputs_7 : decode cX1_stationInputs 7 = .ok (.aload_n 0, 1) := by decide +kernel
theorem dX1_stationInputs_8 : decode cX1_stationInputs 8 = .ok (.iconst 0, 1) := by decide +kernel
theorem dX1_stationInputs_9 : decode cX1_stationInputs 9 = .ok (.putfield 32, 3) := by decide +kernel
theorem dX1_stationInputs_12 : decode cX1_stationInputs 12 = .ok (.iload_n 1, 1) := by decide +kernel
theorem dX1_stationInputs_13 : decode cX1_stationInputs 13 = .ok (.sipush (-241), 3) := by decide +kernel
theorem dX1_stationInputs_16 : decode cX1_stationInputs 16 = .ok (.iand, 1) := by decide +kernel
theorem dX1_stationInputs_17 : decode cX1_stationInputs 17 = .ok (.aload_n 0, 1) := by decide +kernel
theorem dX1_stationInputs_18 : decode cX1_stationInputs 18 = .ok (.getfield 26, 3) := by decide +kernel
theorem dX1_stationInputs_21 : decode cX1_stationInputs 21 = .ok (.sipush 240, 3) := by decide +kernel
theorem dX1_stationInputs_24 : decode cX1_stationInputs 24 = .ok (.iand, 1) := by decide +kernel
theorem dX1_stationInputs_25 : decode cX1_stationInputs 25 = .ok (.ior, 1) := by decide +kernel
theorem dX1_stationInputs_26 : decode cX1_stationInputs 26 = .ok (.ireturn, 1) := by decide +kernel
theorem dX1_stationInputs_27 : decode cX1_stationInputs 27 = .ok (.aload_n 0, 1) := by decide +kernel
theorem dX1_stationInputs_28 : decode cX1_stationInputs 28 = .ok (.dup, 1) := by decide +kernel
theorem dX1_stationInputs_29 : decode cX1_stationInputs 29 = .ok (.getfield 29, 3) := by decide +kernel
theorem dX1_stationInputs_32 : decode cX1_stationInputs 32 = .ok (.iconst 1, 1) := by decide +kernel
theorem dX1_stationInputs_33 : decode cX1_stationInputs 33 = .ok (.isub, 1) := by decide +kernel
theorem dX1_stationInputs_34 : decode cX1_stationInputs 34 = .ok (.putfield 29, 3) := by decide +kernel
theorem dX1_stationInputs_37 : decode cX1_stationInputs 37 = .ok (.aload_n 0, 1) := by decide +kernel
theorem dX1_stationInputs_38 : decode cX1_stationInputs 38 = .ok (.dup, 1) := by decide +kernel
theorem dX1_stationInputs_39 : decode cX1_stationInputs 39 = .ok (.getfield 32, 3) := by decide +kernel
theorem dX1_stationInputs_42 : decode cX1_stationInputs 42 = .ok (.iconst 1, 1) := by decide +kernel
theorem dX1_stationInputs_43 : decode cX1_stationInputs 43 = .ok (.iadd, 1) := by decide +kernel
theorem dX1_stationInputs_44 : decode cX1_stationInputs 44 = .ok (.putfield 32, 3) := by decide +kernel
theorem dX1_stationInputs_47 : decode cX1_stationInputs 47 = .ok (.aload_n 0, 1) := by decide +kernel
theorem dX1_stationInputs_48 : decode cX1_stationInputs 48 = .ok (.getfield 32, 3) := by decide +kernel
theorem dX1_stationInputs_51 : decode cX1_stationInputs 51 = .ok (.aload_n 0, 1) := by decide +kernel
theorem dX1_stationInputs_52 : decode cX1_stationInputs 52 = .ok (.getfield 15, 3) := by decide +kernel
theorem dX1_stationInputs_55 : decode cX1_stationInputs 55 = .ok (.if_icmp .gt 7, 3) := by decide +kernel
theorem dX1_stationInputs_58 : decode cX1_stationInputs 58 = .ok (.iload_n 1, 1) := by decide +kernel
theorem dX1_stationInputs_59 : decode cX1_stationInputs 59 = .ok (.goto 8, 3) := by decide +kernel
theorem dX1_stationInputs_62 : decode cX1_stationInputs 62 = .ok (.iload_n 1, 1) := by decide +kernel
theorem dX1_stationInputs_63 : decode cX1_stationInputs 63 = .ok (.sipush (-241), 3) := by decide +kernel
theorem dX1_stationInputs_66 : decode cX1_stationInputs 66 = .ok (.iand, 1) := by decide +kernel
theorem dX1_stationInputs_67 : decode cX1_stationInputs 67 = .ok (.ireturn, 1) := by decide +kernel
theorem dX1_forgetLosses_0 : decode cX1_forgetLosses 0 = .ok (.aload_n 0, 1) := by decide +kernel
theorem dX1_forgetLosses_1 : decode cX1_forgetLosses 1 = .ok (.iconst 0, 1) := by decide +kernel
theorem dX1_forgetLosses_2 : decode cX1_forgetLosses 2 = .ok (.putfield 29, 3) := by decide +kernel
theorem dX1_forgetLosses_5 : decode cX1_forgetLosses 5 = .ok (.aload_n 0, 1) := by decide +kernel
theorem dX1_forgetLosses_6 : decode cX1_forgetLosses 6 = .ok (.iconst 0, 1) := by decide +kernel
theorem dX1_forgetLosses_7 : decode cX1_forgetLosses 7 = .ok (.putfield 32, 3) := by decide +kernel
theorem dX1_forgetLosses_10 : decode cX1_forgetLosses 10 = .ok (.return_, 1) := by decide +kernel
theorem dX2_init_0 : decode cX2_init 0 = .ok (.aload_n 0, 1) := by decide +kernel
theorem dX2_init_1 : decode cX2_init 1 = .ok (.invokespecial 3, 3) := by decide +kernel
theorem dX2_init_4 : decode cX2_init 4 = .ok (.aload_n 0, 1) := by decide +kernel
theorem dX2_init_5 : decode cX2_init 5 = .ok (.bipush 40, 2) := by decide +kernel
theorem dX2_init_7 : decode cX2_init 7 = .ok (.anewarray 9, 3) := by decide +kernel
theorem dX2_init_10 : decode cX2_init 10 = .ok (.putfield 11, 3) := by decide +kernel
theorem dX2_init_13 : decode cX2_init 13 = .ok (.aload_n 0, 1) := by decide +kernel
theorem dX2_init_14 : decode cX2_init 14 = .ok (.bipush 12, 2) := by decide +kernel
theorem dX2_init_16 : decode cX2_init 16 = .ok (.anewarray 17, 3) := by decide +kernel
theorem dX2_init_19 : decode cX2_init 19 = .ok (.putfield 19, 3) := by decide +kernel
theorem dX2_init_22 : decode cX2_init 22 = .ok (.aload_n 0, 1) := by decide +kernel
theorem dX2_init_23 : decode cX2_init 23 = .ok (.bipush 16, 2) := by decide +kernel
theorem dX2_init_25 : decode cX2_init 25 = .ok (.anewarray 23, 3) := by decide +kernel
theorem dX2_init_28 : decode cX2_init 28 = .ok (.putfield 25, 3) := by decide +kernel
theorem dX2_init_31 : decode cX2_init 31 = .ok (.iconst 0, 1) := by decide +kernel
theorem dX2_init_32 : decode cX2_init 32 = .ok (.istore_n 1, 1) := by decide +kernel
theorem dX2_init_33 : decode cX2_init 33 = .ok (.iload_n 1, 1) := by decide +kernel
theorem dX2_init_34 : decode cX2_init 34 = .ok (.bipush 40, 2) := by decide +kernel
theorem dX2_init_36 : decode cX2_init 36 = .ok (.if_icmp .ge 22, 3) := by decide +kernel
theorem dX2_init_39 : decode cX2_init 39 = .ok (.aload_n 0, 1) := by decide +kernel
theorem dX2_init_40 : decode cX2_init 40 = .ok (.getfield 11, 3) := by decide +kernel
theorem dX2_init_43 : decode cX2_init 43 = .ok (.iload_n 1, 1) := by decide +kernel
theorem dX2_init_44 : decode cX2_init 44 = .ok (.new 9, 3) := by decide +kernel
theorem dX2_init_47 : decode cX2_init 47 = .ok (.dup, 1) := by decide +kernel
theorem dX2_init_48 : decode cX2_init 48 = .ok (.invokespecial 29, 3) := by decide +kernel
theorem dX2_init_51 : decode cX2_init 51 = .ok (.aastore, 1) := by decide +kernel
theorem dX2_init_52 : decode cX2_init 52 = .ok (.iinc 1 1, 3) := by decide +kernel
theorem dX2_init_55 : decode cX2_init 55 = .ok (.goto (-22), 3) := by decide +kernel
theorem dX2_init_58 : decode cX2_init 58 = .ok (.iconst 0, 1) := by decide +kernel
theorem dX2_init_59 : decode cX2_init 59 = .ok (.istore_n 1, 1) := by decide +kernel
theorem dX2_init_60 : decode cX2_init 60 = .ok (.iload_n 1, 1) := by decide +kernel
theorem dX2_init_61 : decode cX2_init 61 = .ok (.bipush 12, 2) := by decide +kernel
theorem dX2_init_63 : decode cX2_init 63 = .ok (.if_icmp .ge 22, 3) := by decide +kernel
theorem dX2_init_66 : decode cX2_init 66 = .ok (.aload_n 0, 1) := by decide +kernel
theorem dX2_init_67 : decode cX2_init 67 = .ok (.getfield 19, 3) := by decide +kernel
theorem dX2_init_70 : decode cX2_init 70 = .ok (.iload_n 1, 1) := by decide +kernel
theorem dX2_init_71 : decode cX2_init 71 = .ok (.new 17, 3) := by decide +kernel
theorem dX2_init_74 : decode cX2_init 74 = .ok (.dup, 1) := by decide +kernel
theorem dX2_init_75 : decode cX2_init 75 = .ok (.invokespecial 30, 3) := by decide +kernel
theorem dX2_init_78 : decode cX2_init 78 = .ok (.aastore, 1) := by decide +kernel
theorem dX2_init_79 : decode cX2_init 79 = .ok (.iinc 1 1, 3) := by decide +kernel
theorem dX2_init_82 : decode cX2_init 82 = .ok (.goto (-22), 3) := by decide +kernel
theorem dX2_init_85 : decode cX2_init 85 = .ok (.iconst 0, 1) := by decide +kernel
theorem dX2_init_86 : decode cX2_init 86 = .ok (.istore_n 1, 1) := by decide +kernel
theorem dX2_init_87 : decode cX2_init 87 = .ok (.iload_n 1, 1) := by decide +kernel
theorem dX2_init_88 : decode cX2_init 88 = .ok (.bipush 16, 2) := by decide +kernel
theorem dX2_init_90 : decode cX2_init 90 = .ok (.if_icmp .ge 22, 3) := by decide +kernel
theorem dX2_init_93 : decode cX2_init 93 = .ok (.aload_n 0, 1) := by decide +kernel
theorem dX2_init_94 : decode cX2_init 94 = .ok (.getfield 25, 3) := by decide +kernel
theorem dX2_init_97 : decode cX2_init 97 = .ok (.iload_n 1, 1) := by decide +kernel
theorem dX2_init_98 : decode cX2_init 98 = .ok (.new 23, 3) := by decide +kernel
theorem dX2_init_101 : decode cX2_init 101 = .ok (.dup, 1) := by decide +kernel
theorem dX2_init_102 : decode cX2_init 102 = .ok (.invokespecial 31, 3) := by decide +kernel
theorem dX2_init_105 : decode cX2_init 105 = .ok (.aastore, 1) := by decide +kernel
theorem dX2_init_106 : decode cX2_init 106 = .ok (.iinc 1 1, 3) := by decide +kernel
theorem dX2_init_109 : decode cX2_init 109 = .ok (.goto (-22), 3) := by decide +kernel
theorem dX2_init_112 : decode cX2_init 112 = .ok (.return_, 1) := by decide +kernel
theorem dX2_clear_0 : decode cX2_clear 0 = .ok (.aload_n 0, 1) := by decide +kernel
theorem dX2_clear_1 : decode cX2_clear 1 = .ok (.iconst 0, 1) := by decide +kernel
theorem dX2_clear_2 : decode cX2_clear 2 = .ok (.putfield 32, 3) := by decide +kernel
theorem dX2_clear_5 : decode cX2_clear 5 = .ok (.aload_n 0, 1) := by decide +kernel
theorem dX2_clear_6 : decode cX2_clear 6 = .ok (.iconst 0, 1) := by decide +kernel
theorem dX2_clear_7 : decode cX2_clear 7 = .ok (.putfield 36, 3) := by decide +kernel
theorem dX2_clear_10 : decode cX2_clear 10 = .ok (.aload_n 0, 1) := by decide +kernel
theorem dX2_clear_11 : decode cX2_clear 11 = .ok (.iconst 0, 1) := by decide +kernel
theorem dX2_clear_12 : decode cX2_clear 12 = .ok (.putfield 39, 3) := by decide +kernel
theorem dX2_clear_15 : decode cX2_clear 15 = .ok (.return_, 1) := by decide +kernel
theorem dX2_copyFrom_0 : decode cX2_copyFrom 0 = .ok (.aload_n 0, 1) := by decide +kernel
theorem dX2_copyFrom_1 : decode cX2_copyFrom 1 = .ok (.aload_n 1, 1) := by decide +kernel
theorem dX2_copyFrom_2 : decode cX2_copyFrom 2 = .ok (.getfield 32, 3) := by decide +kernel
theorem dX2_copyFrom_5 : decode cX2_copyFrom 5 = .ok (.putfield 32, 3) := by decide +kernel
theorem dX2_copyFrom_8 : decode cX2_copyFrom 8 = .ok (.aload_n 0, 1) := by decide +kernel
theorem dX2_copyFrom_9 : decode cX2_copyFrom 9 = .ok (.aload_n 1, 1) := by decide +kernel
theorem dX2_copyFrom_10 : decode cX2_copyFrom 10 = .ok (.getfield 36, 3) := by decide +kernel
theorem dX2_copyFrom_13 : decode cX2_copyFrom 13 = .ok (.putfield 36, 3) := by decide +kernel
theorem dX2_copyFrom_16 : decode cX2_copyFrom 16 = .ok (.aload_n 0, 1) := by decide +kernel
theorem dX2_copyFrom_17 : decode cX2_copyFrom 17 = .ok (.aload_n 1, 1) := by decide +kernel
theorem dX2_copyFrom_18 : decode cX2_copyFrom 18 = .ok (.getfield 39, 3) := by decide +kernel
theorem dX2_copyFrom_21 : decode cX2_copyFrom 21 = .ok (.putfield 39, 3) := by decide +kernel
theorem dX2_copyFrom_24 : decode cX2_copyFrom 24 = .ok (.iconst 0, 1) := by decide +kernel
theorem dX2_copyFrom_25 : decode cX2_copyFrom 25 = .ok (.istore_n 2, 1) := by decide +kernel
theorem dX2_copyFrom_26 : decode cX2_copyFrom 26 = .ok (.iload_n 2, 1) := by decide +kernel
theorem dX2_copyFrom_27 : decode cX2_copyFrom 27 = .ok (.aload_n 0, 1) := by decide +kernel
theorem dX2_copyFrom_28 : decode cX2_copyFrom 28 = .ok (.getfield 32, 3) := by decide +kernel
theorem dX2_copyFrom_31 : decode cX2_copyFrom 31 = .ok (.if_icmp .ge 24, 3) := by decide +kernel
theorem dX2_copyFrom_34 : decode cX2_copyFrom 34 = .ok (.aload_n 0, 1) := by decide +kernel
theorem dX2_copyFrom_35 : decode cX2_copyFrom 35 = .ok (.getfield 11, 3) := by decide +kernel
theorem dX2_copyFrom_38 : decode cX2_copyFrom 38 = .ok (.iload_n 2, 1) := by decide +kernel
theorem dX2_copyFrom_39 : decode cX2_copyFrom 39 = .ok (.aaload, 1) := by decide +kernel
theorem dX2_copyFrom_40 : decode cX2_copyFrom 40 = .ok (.aload_n 1, 1) := by decide +kernel
theorem dX2_copyFrom_41 : decode cX2_copyFrom 41 = .ok (.getfield 11, 3) := by decide +kernel
theorem dX2_copyFrom_44 : decode cX2_copyFrom 44 = .ok (.iload_n 2, 1) := by decide +kernel
theorem dX2_copyFrom_45 : decode cX2_copyFrom 45 = .ok (.aaload, 1) := by decide +kernel
theorem dX2_copyFrom_46 : decode cX2_copyFrom 46 = .ok (.invokevirtual 42, 3) := by decide +kernel
theorem dX2_copyFrom_49 : decode cX2_copyFrom 49 = .ok (.iinc 2 1, 3) := by decide +kernel
theorem dX2_copyFrom_52 : decode cX2_copyFrom 52 = .ok (.goto (-26), 3) := by decide +kernel
theorem dX2_copyFrom_55 : decode cX2_copyFrom 55 = .ok (.iconst 0, 1) := by decide +kernel
theorem dX2_copyFrom_56 : decode cX2_copyFrom 56 = .ok (.istore_n 2, 1) := by decide +kernel
theorem dX2_copyFrom_57 : decode cX2_copyFrom 57 = .ok (.iload_n 2, 1) := by decide +kernel
theorem dX2_copyFrom_58 : decode cX2_copyFrom 58 = .ok (.aload_n 0, 1) := by decide +kernel
theorem dX2_copyFrom_59 : decode cX2_copyFrom 59 = .ok (.getfield 36, 3) := by decide +kernel
theorem dX2_copyFrom_62 : decode cX2_copyFrom 62 = .ok (.if_icmp .ge 24, 3) := by decide +kernel
theorem dX2_copyFrom_65 : decode cX2_copyFrom 65 = .ok (.aload_n 0, 1) := by decide +kernel
theorem dX2_copyFrom_66 : decode cX2_copyFrom 66 = .ok (.getfield 19, 3) := by decide +kernel
theorem dX2_copyFrom_69 : decode cX2_copyFrom 69 = .ok (.iload_n 2, 1) := by decide +kernel
theorem dX2_copyFrom_70 : decode cX2_copyFrom 70 = .ok (.aaload, 1) := by decide +kernel
theorem dX2_copyFrom_71 : decode cX2_copyFrom 71 = .ok (.aload_n 1, 1) := by decide +kernel
theorem dX2_copyFrom_72 : decode cX2_copyFrom 72 = .ok (.getfield 19, 3) := by decide +kernel
theorem dX2_copyFrom_75 : decode cX2_copyFrom 75 = .ok (.iload_n 2, 1) := by decide +kernel
theorem dX2_copyFrom_76 : decode cX2_copyFrom 76 = .ok (.aaload, 1) := by decide +kernel
theorem dX2_copyFrom_77 : decode cX2_copyFrom 77 = .ok (.invokevirtual 46, 3) := by decide +kernel
theorem dX2_copyFrom_80 : decode cX2_copyFrom 80 = .ok (.iinc 2 1, 3) := by decide +kernel
theorem dX2_copyFrom_83 : decode cX2_copyFrom 83 = .ok (.goto (-26), 3) := by decide +kernel
theorem dX2_copyFrom_86 : decode cX2_copyFrom 86 = .ok (.iconst 0, 1) := by decide +kernel
theorem dX2_copyFrom_87 : decode cX2_copyFrom 87 = .ok (.istore_n 2, 1) := by decide +kernel
theorem dX2_copyFrom_88 : decode cX2_copyFrom 88 = .ok (.iload_n 2, 1) := by decide +kernel
theorem dX2_copyFrom_89 : decode cX2_copyFrom 89 = .ok (.aload_n 0, 1) := by decide +kernel
theorem dX2_copyFrom_90 : decode cX2_copyFrom 90 = .ok (.getfield 39, 3) := by decide +kernel
theorem dX2_copyFrom_93 : decode cX2_copyFrom 93 = .ok (.if_icmp .ge 24, 3) := by decide +kernel
theorem dX2_copyFrom_96 : decode cX2_copyFrom 96 = .ok (.aload_n 0, 1) := by decide +kernel
theorem dX2_copyFrom_97 : decode cX2_copyFrom 97 = .ok (.getfield 25, 3) := by decide +kernel
theorem dX2_copyFrom_100 : decode cX2_copyFrom 100 = .ok (.iload_n 2, 1) := by decide +kernel
theorem dX2_copyFrom_101 : decode cX2_copyFrom 101 = .ok (.aaload, 1) := by decide +kernel
theorem dX2_copyFrom_102 : decode cX2_copyFrom 102 = .ok (.aload_n 1, 1) := by decide +kernel
theorem dX2_copyFrom_103 : decode cX2_copyFrom 103 = .ok (.getfield 25, 3) := by decide +kernel
theorem dX2_copyFrom_106 : decode cX2_copyFrom 106 = .ok (.iload_n 2, 1) := by decide +kernel
theorem dX2_copyFrom_107 : decode cX2_copyFrom 107 = .ok (.aaload, 1) := by decide +kernel
theorem dX2_copyFrom_108 : decode cX2_copyFrom 108 = .ok (.invokevirtual 49, 3) := by decide +kernel
theorem dX2_copyFrom_111 : decode cX2_copyFrom 111 = .ok (.iinc 2 1, 3) := by decide +kernel
theorem dX2_copyFrom_114 : decode cX2_copyFrom 114 = .ok (.goto (-26), 3) := by decide +kernel
theorem dX2_copyFrom_117 : decode cX2_copyFrom 117 = .ok (.return_, 1) := by decide +kernel
theorem dX2_hasRung_0 : decode cX2_hasRung 0 = .ok (.iload_n 1, 1) := by decide +kernel
theorem dX2_hasRung_1 : decode cX2_hasRung 1 = .ok (.ifCond .lt 15, 3) := by decide +kernel
theorem dX2_hasRung_4 : decode cX2_hasRung 4 = .ok (.iload_n 1, 1) := by decide +kernel
theorem dX2_hasRung_5 : decode cX2_hasRung 5 = .ok (.aload_n 0, 1) := by decide +kernel
theorem dX2_hasRung_6 : decode cX2_hasRung 6 = .ok (.getfield 32, 3) := by decide +kernel
theorem dX2_hasRung_9 : decode cX2_hasRung 9 = .ok (.if_icmp .ge 7, 3) := by decide +kernel
theorem dX2_hasRung_12 : decode cX2_hasRung 12 = .ok (.iconst 1, 1) := by decide +kernel
theorem dX2_hasRung_13 : decode cX2_hasRung 13 = .ok (.goto 4, 3) := by decide +kernel
theorem dX2_hasRung_16 : decode cX2_hasRung 16 = .ok (.iconst 0, 1) := by decide +kernel
theorem dX2_hasRung_17 : decode cX2_hasRung 17 = .ok (.ireturn, 1) := by decide +kernel
theorem dX2_hasStep_0 : decode cX2_hasStep 0 = .ok (.iload_n 1, 1) := by decide +kernel
theorem dX2_hasStep_1 : decode cX2_hasStep 1 = .ok (.ifCond .lt 15, 3) := by decide +kernel
theorem dX2_hasStep_4 : decode cX2_hasStep 4 = .ok (.iload_n 1, 1) := by decide +kernel
theorem dX2_hasStep_5 : decode cX2_hasStep 5 = .ok (.aload_n 0, 1) := by decide +kernel
theorem dX2_hasStep_6 : decode cX2_hasStep 6 = .ok (.getfield 36, 3) := by decide +kernel
theorem dX2_hasStep_9 : decode cX2_hasStep 9 = .ok (.if_icmp .ge 7, 3) := by decide +kernel
theorem dX2_hasStep_12 : decode cX2_hasStep 12 = .ok (.iconst 1, 1) := by decide +kernel
theorem dX2_hasStep_13 : decode cX2_hasStep 13 = .ok (.goto 4, 3) := by decide +kernel
theorem dX2_hasStep_16 : decode cX2_hasStep 16 = .ok (.iconst 0, 1) := by decide +kernel
theorem dX2_hasStep_17 : decode cX2_hasStep 17 = .ok (.ireturn, 1) := by decide +kernel
theorem dX2_hasStepOrNone_0 : decode cX2_hasStepOrNone 0 = .ok (.iload_n 1, 1) := by decide +kernel
theorem dX2_hasStepOrNone_1 : decode cX2_hasStepOrNone 1 = .ok (.iconst (-1), 1) := by decide +kernel
theorem dX2_hasStepOrNone_2 : decode cX2_hasStepOrNone 2 = .ok (.if_icmp .eq 11, 3) := by decide +kernel
theorem dX2_hasStepOrNone_5 : decode cX2_hasStepOrNone 5 = .ok (.aload_n 0, 1) := by decide +kernel
theorem dX2_hasStepOrNone_6 : decode cX2_hasStepOrNone 6 = .ok (.iload_n 1, 1) := by decide +kernel
theorem dX2_hasStepOrNone_7 : decode cX2_hasStepOrNone 7 = .ok (.invokevirtual 52, 3) := by decide +kernel
theorem dX2_hasStepOrNone_10 : decode cX2_hasStepOrNone 10 = .ok (.ifCond .eq 7, 3) := by decide +kernel
theorem dX2_hasStepOrNone_13 : decode cX2_hasStepOrNone 13 = .ok (.iconst 1, 1) := by decide +kernel
theorem dX2_hasStepOrNone_14 : decode cX2_hasStepOrNone 14 = .ok (.goto 4, 3) := by decide +kernel
theorem dX2_hasStepOrNone_17 : decode cX2_hasStepOrNone 17 = .ok (.iconst 0, 1) := by decide +kernel
theorem dX2_hasStepOrNone_18 : decode cX2_hasStepOrNone 18 = .ok (.ireturn, 1) := by decide +kernel
theorem dX2_stepMask_0 : decode cX2_stepMask 0 = .ok (.iconst 1, 1) := by decide +kernel
theorem dX2_stepMask_1 : decode cX2_stepMask 1 = .ok (.aload_n 0, 1) := by decide +kernel
theorem dX2_stepMask_2 : decode cX2_stepMask 2 = .ok (.getfield 36, 3) := by decide +kernel
theorem dX2_stepMask_5 : decode cX2_stepMask 5 = .ok (.ishl, 1) := by decide +kernel
theorem dX2_stepMask_6 : decode cX2_stepMask 6 = .ok (.iconst 1, 1) := by decide +kernel
theorem dX2_stepMask_7 : decode cX2_stepMask 7 = .ok (.isub, 1) := by decide +kernel
theorem dX2_stepMask_8 : decode cX2_stepMask 8 = .ok (.ireturn, 1) := by decide +kernel
theorem dX3_init_0 : decode cX3_init 0 = .ok (.aload_n 0, 1) := by decide +kernel
theorem dX3_init_1 : decode cX3_init 1 = .ok (.invokespecial 3, 3) := by decide +kernel
theorem dX3_init_4 : decode cX3_init 4 = .ok (.aload_n 0, 1) := by decide +kernel
theorem dX3_init_5 : decode cX3_init 5 = .ok (.iconst 4, 1) := by decide +kernel
theorem dX3_init_6 : decode cX3_init 6 = .ok (.newarray .char, 2) := by decide +kernel
theorem dX3_init_8 : decode cX3_init 8 = .ok (.putfield 9, 3) := by decide +kernel
theorem dX3_init_11 : decode cX3_init 11 = .ok (.aload_n 0, 1) := by decide +kernel
theorem dX3_init_12 : decode cX3_init 12 = .ok (.iconst 4, 1) := by decide +kernel
theorem dX3_init_13 : decode cX3_init 13 = .ok (.newarray .int, 2) := by decide +kernel
theorem dX3_init_15 : decode cX3_init 15 = .ok (.putfield 15, 3) := by decide +kernel
theorem dX3_init_18 : decode cX3_init 18 = .ok (.return_, 1) := by decide +kernel
theorem dX3_copyFrom_0 : decode cX3_copyFrom 0 = .ok (.aload_n 0, 1) := by decide +kernel
theorem dX3_copyFrom_1 : decode cX3_copyFrom 1 = .ok (.aload_n 1, 1) := by decide +kernel
theorem dX3_copyFrom_2 : decode cX3_copyFrom 2 = .ok (.getfield 19, 3) := by decide +kernel
theorem dX3_copyFrom_5 : decode cX3_copyFrom 5 = .ok (.putfield 19, 3) := by decide +kernel
theorem dX3_copyFrom_8 : decode cX3_copyFrom 8 = .ok (.aload_n 0, 1) := by decide +kernel
theorem dX3_copyFrom_9 : decode cX3_copyFrom 9 = .ok (.aload_n 1, 1) := by decide +kernel
theorem dX3_copyFrom_10 : decode cX3_copyFrom 10 = .ok (.getfield 23, 3) := by decide +kernel
theorem dX3_copyFrom_13 : decode cX3_copyFrom 13 = .ok (.putfield 23, 3) := by decide +kernel
theorem dX3_copyFrom_16 : decode cX3_copyFrom 16 = .ok (.aload_n 0, 1) := by decide +kernel
theorem dX3_copyFrom_17 : decode cX3_copyFrom 17 = .ok (.aload_n 1, 1) := by decide +kernel
theorem dX3_copyFrom_18 : decode cX3_copyFrom 18 = .ok (.getfield 27, 3) := by decide +kernel
theorem dX3_copyFrom_21 : decode cX3_copyFrom 21 = .ok (.putfield 27, 3) := by decide +kernel
theorem dX3_copyFrom_24 : decode cX3_copyFrom 24 = .ok (.aload_n 0, 1) := by decide +kernel
theorem dX3_copyFrom_25 : decode cX3_copyFrom 25 = .ok (.aload_n 1, 1) := by decide +kernel
theorem dX3_copyFrom_26 : decode cX3_copyFrom 26 = .ok (.getfield 30, 3) := by decide +kernel
theorem dX3_copyFrom_29 : decode cX3_copyFrom 29 = .ok (.putfield 30, 3) := by decide +kernel
theorem dX3_copyFrom_32 : decode cX3_copyFrom 32 = .ok (.aload_n 0, 1) := by decide +kernel
theorem dX3_copyFrom_33 : decode cX3_copyFrom 33 = .ok (.aload_n 1, 1) := by decide +kernel
theorem dX3_copyFrom_34 : decode cX3_copyFrom 34 = .ok (.getfield 33, 3) := by decide +kernel
theorem dX3_copyFrom_37 : decode cX3_copyFrom 37 = .ok (.putfield 33, 3) := by decide +kernel
theorem dX3_copyFrom_40 : decode cX3_copyFrom 40 = .ok (.iconst 0, 1) := by decide +kernel
theorem dX3_copyFrom_41 : decode cX3_copyFrom 41 = .ok (.istore_n 2, 1) := by decide +kernel
theorem dX3_copyFrom_42 : decode cX3_copyFrom 42 = .ok (.iload_n 2, 1) := by decide +kernel
theorem dX3_copyFrom_43 : decode cX3_copyFrom 43 = .ok (.iconst 4, 1) := by decide +kernel
theorem dX3_copyFrom_44 : decode cX3_copyFrom 44 = .ok (.if_icmp .ge 33, 3) := by decide +kernel
theorem dX3_copyFrom_47 : decode cX3_copyFrom 47 = .ok (.aload_n 0, 1) := by decide +kernel
theorem dX3_copyFrom_48 : decode cX3_copyFrom 48 = .ok (.getfield 9, 3) := by decide +kernel
theorem dX3_copyFrom_51 : decode cX3_copyFrom 51 = .ok (.iload_n 2, 1) := by decide +kernel
theorem dX3_copyFrom_52 : decode cX3_copyFrom 52 = .ok (.aload_n 1, 1) := by decide +kernel
theorem dX3_copyFrom_53 : decode cX3_copyFrom 53 = .ok (.getfield 9, 3) := by decide +kernel
theorem dX3_copyFrom_56 : decode cX3_copyFrom 56 = .ok (.iload_n 2, 1) := by decide +kernel
theorem dX3_copyFrom_57 : decode cX3_copyFrom 57 = .ok (.caload, 1) := by decide +kernel
theorem dX3_copyFrom_58 : decode cX3_copyFrom 58 = .ok (.castore, 1) := by decide +kernel
theorem dX3_copyFrom_59 : decode cX3_copyFrom 59 = .ok (.aload_n 0, 1) := by decide +kernel
theorem dX3_copyFrom_60 : decode cX3_copyFrom 60 = .ok (.getfield 15, 3) := by decide +kernel
theorem dX3_copyFrom_63 : decode cX3_copyFrom 63 = .ok (.iload_n 2, 1) := by decide +kernel
theorem dX3_copyFrom_64 : decode cX3_copyFrom 64 = .ok (.aload_n 1, 1) := by decide +kernel
theorem dX3_copyFrom_65 : decode cX3_copyFrom 65 = .ok (.getfield 15, 3) := by decide +kernel
theorem dX3_copyFrom_68 : decode cX3_copyFrom 68 = .ok (.iload_n 2, 1) := by decide +kernel
theorem dX3_copyFrom_69 : decode cX3_copyFrom 69 = .ok (.iaload, 1) := by decide +kernel
theorem dX3_copyFrom_70 : decode cX3_copyFrom 70 = .ok (.iastore, 1) := by decide +kernel
theorem dX3_copyFrom_71 : decode cX3_copyFrom 71 = .ok (.iinc 2 1, 3) := by decide +kernel
theorem dX3_copyFrom_74 : decode cX3_copyFrom 74 = .ok (.goto (-32), 3) := by decide +kernel
theorem dX3_copyFrom_77 : decode cX3_copyFrom 77 = .ok (.return_, 1) := by decide +kernel
theorem dX3_hasSameContact_0 : decode cX3_hasSameContact 0 = .ok (.iload_n 2, 1) := by decide +kernel
theorem dX3_hasSameContact_1 : decode cX3_hasSameContact 1 = .ok (.aload_n 0, 1) := by decide +kernel
theorem dX3_hasSameContact_2 : decode cX3_hasSameContact 2 = .ok (.getfield 33, 3) := by decide +kernel
theorem dX3_hasSameContact_5 : decode cX3_hasSameContact 5 = .ok (.if_icmp .ge 45, 3) := by decide +kernel
theorem dX3_hasSameContact_8 : decode cX3_hasSameContact 8 = .ok (.iload_n 2, 1) := by decide +kernel
theorem dX3_hasSameContact_9 : decode cX3_hasSameContact 9 = .ok (.aload_n 1, 1) := by decide +kernel
theorem dX3_hasSameContact_10 : decode cX3_hasSameContact 10 = .ok (.getfield 33, 3) := by decide +kernel
theorem dX3_hasSameContact_13 : decode cX3_hasSameContact 13 = .ok (.if_icmp .ge 37, 3) := by decide +kernel
theorem dX3_hasSameContact_16 : decode cX3_hasSameContact 16 = .ok (.aload_n 0, 1) := by decide +kernel
theorem dX3_hasSameContact_17 : decode cX3_hasSameContact 17 = .ok (.getfield 9, 3) := by decide +kernel
theorem dX3_hasSameContact_20 : decode cX3_hasSameContact 20 = .ok (.iload_n 2, 1) := by decide +kernel
theorem dX3_hasSameContact_21 : decode cX3_hasSameContact 21 = .ok (.caload, 1) := by decide +kernel
theorem dX3_hasSameContact_22 : decode cX3_hasSameContact 22 = .ok (.aload_n 1, 1) := by decide +kernel
theorem dX3_hasSameContact_23 : decode cX3_hasSameContact 23 = .ok (.getfield 9, 3) := by decide +kernel
theorem dX3_hasSameContact_26 : decode cX3_hasSameContact 26 = .ok (.iload_n 2, 1) := by decide +kernel
theorem dX3_hasSameContact_27 : decode cX3_hasSameContact 27 = .ok (.caload, 1) := by decide +kernel
theorem dX3_hasSameContact_28 : decode cX3_hasSameContact 28 = .ok (.if_icmp .ne 22, 3) := by decide +kernel
theorem dX3_hasSameContact_31 : decode cX3_hasSameContact 31 = .ok (.aload_n 0, 1) := by decide +kernel
theorem dX3_hasSameContact_32 : decode cX3_hasSameContact 32 = .ok (.getfield 15, 3) := by decide +kernel
theorem dX3_hasSameContact_35 : decode cX3_hasSameContact 35 = .ok (.iload_n 2, 1) := by decide +kernel
theorem dX3_hasSameContact_36 : decode cX3_hasSameContact 36 = .ok (.iaload, 1) := by decide +kernel
theorem dX3_hasSameContact_37 : decode cX3_hasSameContact 37 = .ok (.aload_n 1, 1) := by decide +kernel
theorem dX3_hasSameContact_38 : decode cX3_hasSameContact 38 = .ok (.getfield 15, 3) := by decide +kernel
theorem dX3_hasSameContact_41 : decode cX3_hasSameContact 41 = .ok (.iload_n 2, 1) := by decide +kernel
theorem dX3_hasSameContact_42 : decode cX3_hasSameContact 42 = .ok (.iaload, 1) := by decide +kernel
theorem dX3_hasSameContact_43 : decode cX3_hasSameContact 43 = .ok (.if_icmp .ne 7, 3) := by decide +kernel
theorem dX3_hasSameContact_46 : decode cX3_hasSameContact 46 = .ok (.iconst 1, 1) := by decide +kernel
theorem dX3_hasSameContact_47 : decode cX3_hasSameContact 47 = .ok (.goto 4, 3) := by decide +kernel
theorem dX3_hasSameContact_50 : decode cX3_hasSameContact 50 = .ok (.iconst 0, 1) := by decide +kernel
theorem dX3_hasSameContact_51 : decode cX3_hasSameContact 51 = .ok (.ireturn, 1) := by decide +kernel
theorem dX3_isSameCounter_0 : decode cX3_isSameCounter 0 = .ok (.aload_n 0, 1) := by decide +kernel
theorem dX3_isSameCounter_1 : decode cX3_isSameCounter 1 = .ok (.getfield 23, 3) := by decide +kernel
theorem dX3_isSameCounter_4 : decode cX3_isSameCounter 4 = .ok (.bipush 67, 2) := by decide +kernel
theorem dX3_isSameCounter_6 : decode cX3_isSameCounter 6 = .ok (.if_icmp .ne 27, 3) := by decide +kernel
theorem dX3_isSameCounter_9 : decode cX3_isSameCounter 9 = .ok (.aload_n 1, 1) := by decide +kernel
theorem dX3_isSameCounter_10 : decode cX3_isSameCounter 10 = .ok (.getfield 23, 3) := by decide +kernel
theorem dX3_isSameCounter_13 : decode cX3_isSameCounter 13 = .ok (.bipush 67, 2) := by decide +kernel
theorem dX3_isSameCounter_15 : decode cX3_isSameCounter 15 = .ok (.if_icmp .ne 18, 3) := by decide +kernel
theorem dX3_isSameCounter_18 : decode cX3_isSameCounter 18 = .ok (.aload_n 0, 1) := by decide +kernel
theorem dX3_isSameCounter_19 : decode cX3_isSameCounter 19 = .ok (.getfield 27, 3) := by decide +kernel
theorem dX3_isSameCounter_22 : decode cX3_isSameCounter 22 = .ok (.aload_n 1, 1) := by decide +kernel
theorem dX3_isSameCounter_23 : decode cX3_isSameCounter 23 = .ok (.getfield 27, 3) := by decide +kernel
theorem dX3_isSameCounter_26 : decode cX3_isSameCounter 26 = .ok (.if_icmp .ne 7, 3) := by decide +kernel
theorem dX3_isSameCounter_29 : decode cX3_isSameCounter 29 = .ok (.iconst 1, 1) := by decide +kernel
theorem dX3_isSameCounter_30 : decode cX3_isSameCounter 30 = .ok (.goto 4, 3) := by decide +kernel
theorem dX3_isSameCounter_33 : decode cX3_isSameCounter 33 = .ok (.iconst 0, 1) := by decide +kernel
theorem dX3_isSameCounter_34 : decode cX3_isSameCounter 34 = .ok (.ireturn, 1) := by decide +kernel
theorem dX4_init_0 : decode cX4_init 0 = .ok (.aload_n 0, 1) := by decide +kernel
theorem dX4_init_1 : decode cX4_init 1 = .ok (.invokespecial 1, 3) := by decide +kernel
theorem dX4_init_4 : decode cX4_init 4 = .ok (.aload_n 0, 1) := by decide +kernel
theorem dX4_init_5 : decode cX4_init 5 = .ok (.new 7, 3) := by decide +kernel
theorem dX4_init_8 : decode cX4_init 8 = .ok (.dup, 1) := by decide +kernel
theorem dX4_init_9 : decode cX4_init 9 = .ok (.invokespecial 9, 3) := by decide +kernel
theorem dX4_init_12 : decode cX4_init 12 = .ok (.putfield 10, 3) := by decide +kernel
theorem dX4_init_15 : decode cX4_init 15 = .ok (.aload_n 0, 1) := by decide +kernel
theorem dX4_init_16 : decode cX4_init 16 = .ok (.iconst 1, 1) := by decide +kernel
theorem dX4_init_17 : decode cX4_init 17 = .ok (.putfield 16, 3) := by decide +kernel
theorem dX4_init_20 : decode cX4_init 20 = .ok (.return_, 1) := by decide +kernel
theorem dX4_clear_0 : decode cX4_clear 0 = .ok (.aload_n 0, 1) := by decide +kernel
theorem dX4_clear_1 : decode cX4_clear 1 = .ok (.iconst 1, 1) := by decide +kernel
theorem dX4_clear_2 : decode cX4_clear 2 = .ok (.putfield 16, 3) := by decide +kernel
theorem dX4_clear_5 : decode cX4_clear 5 = .ok (.aload_n 0, 1) := by decide +kernel
theorem dX4_clear_6 : decode cX4_clear 6 = .ok (.iconst 0, 1) := by decide +kernel
theorem dX4_clear_7 : decode cX4_clear 7 = .ok (.putfield 20, 3) := by decide +kernel
theorem dX4_clear_10 : decode cX4_clear 10 = .ok (.aload_n 0, 1) := by decide +kernel
theorem dX4_clear_11 : decode cX4_clear 11 = .ok (.iconst 0, 1) := by decide +kernel
theorem dX4_clear_12 : decode cX4_clear 12 = .ok (.putfield 23, 3) := by decide +kernel
theorem dX4_clear_15 : decode cX4_clear 15 = .ok (.aload_n 0, 1) := by decide +kernel
theorem dX4_clear_16 : decode cX4_clear 16 = .ok (.iconst 0, 1) := by decide +kernel
theorem dX4_clear_17 : decode cX4_clear 17 = .ok (.putfield 26, 3) := by decide +kernel
theorem dX4_clear_20 : decode cX4_clear 20 = .ok (.return_, 1) := by decide +kernel
theorem dX4_follow_0 : decode cX4_follow 0 = .ok (.aload_n 0, 1) := by decide +kernel
theorem dX4_follow_1 : decode cX4_follow 1 = .ok (.getfield 16, 3) := by decide +kernel
theorem dX4_follow_4 : decode cX4_follow 4 = .ok (.ifCond .eq 16, 3) := by decide +kernel
theorem dX4_follow_7 : decode cX4_follow 7 = .ok (.aload_n 0, 1) := by decide +kernel
theorem dX4_follow_8 : decode cX4_follow 8 = .ok (.getfield 10, 3) := by decide +kernel
theorem dX4_follow_11 : decode cX4_follow 11 = .ok (.aload_n 1, 1) := by decide +kernel
theorem dX4_follow_12 : decode cX4_follow 12 = .ok (.invokevirtual 29, 3) := by decide +kernel
theorem dX4_follow_15 : decode cX4_follow 15 = .ok (.aload_n 0, 1) := by decide +kernel
theorem dX4_follow_16 : decode cX4_follow 16 = .ok (.iconst 1, 1) := by decide +kernel
theorem dX4_follow_17 : decode cX4_follow 17 = .ok (.putfield 20, 3) := by decide +kernel
theorem dX4_follow_20 : decode cX4_follow 20 = .ok (.return_, 1) := by decide +kernel
theorem dX4_endComing_0 : decode cX4_endComing 0 = .ok (.aload_n 0, 1) := by decide +kernel
theorem dX4_endComing_1 : decode cX4_endComing 1 = .ok (.getfield 23, 3) := by decide +kernel
theorem dX4_endComing_4 : decode cX4_endComing 4 = .ok (.ifCond .eq 13, 3) := by decide +kernel
theorem dX4_endComing_7 : decode cX4_endComing 7 = .ok (.aload_n 0, 1) := by decide +kernel
theorem dX4_endComing_8 : decode cX4_endComing 8 = .ok (.iconst 0, 1) := by decide +kernel
theorem dX4_endComing_9 : decode cX4_endComing 9 = .ok (.putfield 23, 3) := by decide +kernel
theorem dX4_endComing_12 : decode cX4_endComing 12 = .ok (.aload_n 0, 1) := by decide +kernel
theorem dX4_endComing_13 : decode cX4_endComing 13 = .ok (.iconst 1, 1) := by decide +kernel
theorem dX4_endComing_14 : decode cX4_endComing 14 = .ok (.putfield 16, 3) := by decide +kernel
theorem dX4_endComing_17 : decode cX4_endComing 17 = .ok (.return_, 1) := by decide +kernel
theorem dX5_init_0 : decode cX5_init 0 = .ok (.aload_n 0, 1) := by decide +kernel
theorem dX5_init_1 : decode cX5_init 1 = .ok (.invokespecial 3, 3) := by decide +kernel
theorem dX5_init_4 : decode cX5_init 4 = .ok (.aload_n 0, 1) := by decide +kernel
theorem dX5_init_5 : decode cX5_init 5 = .ok (.iconst 1, 1) := by decide +kernel
theorem dX5_init_6 : decode cX5_init 6 = .ok (.putfield 9, 3) := by decide +kernel
theorem dX5_init_9 : decode cX5_init 9 = .ok (.aload_n 0, 1) := by decide +kernel
theorem dX5_init_10 : decode cX5_init 10 = .ok (.bipush 8, 2) := by decide +kernel
theorem dX5_init_12 : decode cX5_init 12 = .ok (.newarray .int, 2) := by decide +kernel
theorem dX5_init_14 : decode cX5_init 14 = .ok (.putfield 15, 3) := by decide +kernel
theorem dX5_init_17 : decode cX5_init 17 = .ok (.aload_n 0, 1) := by decide +kernel
theorem dX5_init_18 : decode cX5_init 18 = .ok (.bipush 8, 2) := by decide +kernel
theorem dX5_init_20 : decode cX5_init 20 = .ok (.newarray .int, 2) := by decide +kernel
theorem dX5_init_22 : decode cX5_init 22 = .ok (.putfield 19, 3) := by decide +kernel
theorem dX5_init_25 : decode cX5_init 25 = .ok (.aload_n 0, 1) := by decide +kernel
theorem dX5_init_26 : decode cX5_init 26 = .ok (.bipush 12, 2) := by decide +kernel
theorem dX5_init_28 : decode cX5_init 28 = .ok (.newarray .int, 2) := by decide +kernel
theorem dX5_init_30 : decode cX5_init 30 = .ok (.putfield 22, 3) := by decide +kernel
theorem dX5_init_33 : decode cX5_init 33 = .ok (.aload_n 0, 1) := by decide +kernel
theorem dX5_init_34 : decode cX5_init 34 = .ok (.bipush 40, 2) := by decide +kernel
theorem dX5_init_36 : decode cX5_init 36 = .ok (.newarray .int, 2) := by decide +kernel
theorem dX5_init_38 : decode cX5_init 38 = .ok (.putfield 25, 3) := by decide +kernel
theorem dX5_init_41 : decode cX5_init 41 = .ok (.aload_n 0, 1) := by decide +kernel
theorem dX5_init_42 : decode cX5_init 42 = .ok (.iconst 2, 1) := by decide +kernel
theorem dX5_init_43 : decode cX5_init 43 = .ok (.newarray .int, 2) := by decide +kernel
theorem dX5_init_45 : decode cX5_init 45 = .ok (.putfield 28, 3) := by decide +kernel
theorem dX5_init_48 : decode cX5_init 48 = .ok (.aload_n 0, 1) := by decide +kernel
theorem dX5_init_49 : decode cX5_init 49 = .ok (.new 31, 3) := by decide +kernel
theorem dX5_init_52 : decode cX5_init 52 = .ok (.dup, 1) := by decide +kernel
theorem dX5_init_53 : decode cX5_init 53 = .ok (.invokespecial 33, 3) := by decide +kernel
theorem dX5_init_56 : decode cX5_init 56 = .ok (.putfield 34, 3) := by decide +kernel
theorem dX5_init_59 : decode cX5_init 59 = .ok (.return_, 1) := by decide +kernel
theorem dX5_clear_0 : decode cX5_clear 0 = .ok (.aload_n 0, 1) := by decide +kernel
theorem dX5_clear_1 : decode cX5_clear 1 = .ok (.iconst 0, 1) := by decide +kernel
theorem dX5_clear_2 : decode cX5_clear 2 = .ok (.putfield 38, 3) := by decide +kernel
theorem dX5_clear_5 : decode cX5_clear 5 = .ok (.aload_n 0, 1) := by decide +kernel
theorem dX5_clear_6 : decode cX5_clear 6 = .ok (.iconst 1, 1) := by decide +kernel
theorem dX5_clear_7 : decode cX5_clear 7 = .ok (.putfield 9, 3) := by decide +kernel
theorem dX5_clear_10 : decode cX5_clear 10 = .ok (.aload_n 0, 1) := by decide +kernel
theorem dX5_clear_11 : decode cX5_clear 11 = .ok (.iconst 0, 1) := by decide +kernel
theorem dX5_clear_12 : decode cX5_clear 12 = .ok (.putfield 41, 3) := by decide +kernel
theorem dX5_clear_15 : decode cX5_clear 15 = .ok (.aload_n 0, 1) := by decide +kernel
theorem dX5_clear_16 : decode cX5_clear 16 = .ok (.lconst 0, 1) := by decide +kernel
theorem dX5_clear_17 : decode cX5_clear 17 = .ok (.putfield 44, 3) := by decide +kernel
theorem dX5_clear_20 : decode cX5_clear 20 = .ok (.iconst 0, 1) := by decide +kernel
theorem dX5_clear_21 : decode cX5_clear 21 = .ok (.istore_n 2, 1) := by decide +kernel
theorem dX5_clear_22 : decode cX5_clear 22 = .ok (.iload_n 2, 1) := by decide +kernel
theorem dX5_clear_23 : decode cX5_clear 23 = .ok (.bipush 8, 2) := by decide +kernel
theorem dX5_clear_25 : decode cX5_clear 25 = .ok (.if_icmp .ge 23, 3) := by decide +kernel
theorem dX5_clear_28 : decode cX5_clear 28 = .ok (.aload_n 0, 1) := by decide +kernel
theorem dX5_clear_29 : decode cX5_clear 29 = .ok (.getfield 15, 3) := by decide +kernel
theorem dX5_clear_32 : decode cX5_clear 32 = .ok (.iload_n 2, 1) := by decide +kernel
theorem dX5_clear_33 : decode cX5_clear 33 = .ok (.iconst 0, 1) := by decide +kernel
theorem dX5_clear_34 : decode cX5_clear 34 = .ok (.iastore, 1) := by decide +kernel
theorem dX5_clear_35 : decode cX5_clear 35 = .ok (.aload_n 0, 1) := by decide +kernel
theorem dX5_clear_36 : decode cX5_clear 36 = .ok (.getfield 19, 3) := by decide +kernel
theorem dX5_clear_39 : decode cX5_clear 39 = .ok (.iload_n 2, 1) := by decide +kernel
theorem dX5_clear_40 : decode cX5_clear 40 = .ok (.iconst 0, 1) := by decide +kernel
theorem dX5_clear_41 : decode cX5_clear 41 = .ok (.iastore, 1) := by decide +kernel
theorem dX5_clear_42 : decode cX5_clear 42 = .ok (.iinc 2 1, 3) := by decide +kernel
theorem dX5_clear_45 : decode cX5_clear 45 = .ok (.goto (-23), 3) := by decide +kernel
theorem dX5_clear_48 : decode cX5_clear 48 = .ok (.iconst 0, 1) := by decide +kernel
theorem dX5_clear_49 : decode cX5_clear 49 = .ok (.istore_n 2, 1) := by decide +kernel
theorem dX5_clear_50 : decode cX5_clear 50 = .ok (.iload_n 2, 1) := by decide +kernel
theorem dX5_clear_51 : decode cX5_clear 51 = .ok (.bipush 12, 2) := by decide +kernel
theorem dX5_clear_53 : decode cX5_clear 53 = .ok (.if_icmp .ge 16, 3) := by decide +kernel
theorem dX5_clear_56 : decode cX5_clear 56 = .ok (.aload_n 0, 1) := by decide +kernel
theorem dX5_clear_57 : decode cX5_clear 57 = .ok (.getfield 22, 3) := by decide +kernel
theorem dX5_clear_60 : decode cX5_clear 60 = .ok (.iload_n 2, 1) := by decide +kernel
theorem dX5_clear_61 : decode cX5_clear 61 = .ok (.iconst 0, 1) := by decide +kernel
theorem dX5_clear_62 : decode cX5_clear 62 = .ok (.iastore, 1) := by decide +kernel
theorem dX5_clear_63 : decode cX5_clear 63 = .ok (.iinc 2 1, 3) := by decide +kernel
theorem dX5_clear_66 : decode cX5_clear 66 = .ok (.goto (-16), 3) := by decide +kernel
theorem dX5_clear_69 : decode cX5_clear 69 = .ok (.iconst 0, 1) := by decide +kernel
theorem dX5_clear_70 : decode cX5_clear 70 = .ok (.istore_n 2, 1) := by decide +kernel
theorem dX5_clear_71 : decode cX5_clear 71 = .ok (.iload_n 2, 1) := by decide +kernel
theorem dX5_clear_72 : decode cX5_clear 72 = .ok (.bipush 40, 2) := by decide +kernel
theorem dX5_clear_74 : decode cX5_clear 74 = .ok (.if_icmp .ge 16, 3) := by decide +kernel
theorem dX5_clear_77 : decode cX5_clear 77 = .ok (.aload_n 0, 1) := by decide +kernel
theorem dX5_clear_78 : decode cX5_clear 78 = .ok (.getfield 25, 3) := by decide +kernel
theorem dX5_clear_81 : decode cX5_clear 81 = .ok (.iload_n 2, 1) := by decide +kernel
theorem dX5_clear_82 : decode cX5_clear 82 = .ok (.iconst 0, 1) := by decide +kernel
theorem dX5_clear_83 : decode cX5_clear 83 = .ok (.iastore, 1) := by decide +kernel
theorem dX5_clear_84 : decode cX5_clear 84 = .ok (.iinc 2 1, 3) := by decide +kernel
theorem dX5_clear_87 : decode cX5_clear 87 = .ok (.goto (-16), 3) := by decide +kernel
theorem dX5_clear_90 : decode cX5_clear 90 = .ok (.iconst 0, 1) := by decide +kernel
theorem dX5_clear_91 : decode cX5_clear 91 = .ok (.istore_n 2, 1) := by decide +kernel
theorem dX5_clear_92 : decode cX5_clear 92 = .ok (.iload_n 2, 1) := by decide +kernel
theorem dX5_clear_93 : decode cX5_clear 93 = .ok (.iconst 2, 1) := by decide +kernel
theorem dX5_clear_94 : decode cX5_clear 94 = .ok (.if_icmp .ge 16, 3) := by decide +kernel
theorem dX5_clear_97 : decode cX5_clear 97 = .ok (.aload_n 0, 1) := by decide +kernel
theorem dX5_clear_98 : decode cX5_clear 98 = .ok (.getfield 28, 3) := by decide +kernel
theorem dX5_clear_101 : decode cX5_clear 101 = .ok (.iload_n 2, 1) := by decide +kernel
theorem dX5_clear_102 : decode cX5_clear 102 = .ok (.iload_n 1, 1) := by decide +kernel
theorem dX5_clear_103 : decode cX5_clear 103 = .ok (.iastore, 1) := by decide +kernel
theorem dX5_clear_104 : decode cX5_clear 104 = .ok (.iinc 2 1, 3) := by decide +kernel
theorem dX5_clear_107 : decode cX5_clear 107 = .ok (.goto (-15), 3) := by decide +kernel
theorem dX5_clear_110 : decode cX5_clear 110 = .ok (.aload_n 0, 1) := by decide +kernel
theorem dX5_clear_111 : decode cX5_clear 111 = .ok (.getfield 34, 3) := by decide +kernel
theorem dX5_clear_114 : decode cX5_clear 114 = .ok (.invokevirtual 48, 3) := by decide +kernel
theorem dX5_clear_117 : decode cX5_clear 117 = .ok (.return_, 1) := by decide +kernel
theorem dX5_copyFrom_0 : decode cX5_copyFrom 0 = .ok (.aload_n 0, 1) := by decide +kernel
theorem dX5_copyFrom_1 : decode cX5_copyFrom 1 = .ok (.aload_n 1, 1) := by decide +kernel
theorem dX5_copyFrom_2 : decode cX5_copyFrom 2 = .ok (.getfield 38, 3) := by decide +kernel
theorem dX5_copyFrom_5 : decode cX5_copyFrom 5 = .ok (.putfield 38, 3) := by decide +kernel
theorem dX5_copyFrom_8 : decode cX5_copyFrom 8 = .ok (.aload_n 0, 1) := by decide +kernel
theorem dX5_copyFrom_9 : decode cX5_copyFrom 9 = .ok (.aload_n 1, 1) := by decide +kernel
theorem dX5_copyFrom_10 : decode cX5_copyFrom 10 = .ok (.getfield 9, 3) := by decide +kernel
theorem dX5_copyFrom_13 : decode cX5_copyFrom 13 = .ok (.putfield 9, 3) := by decide +kernel
theorem dX5_copyFrom_16 : decode cX5_copyFrom 16 = .ok (.aload_n 0, 1) := by decide +kernel
theorem dX5_copyFrom_17 : decode cX5_copyFrom 17 = .ok (.aload_n 1, 1) := by decide +kernel
theorem dX5_copyFrom_18 : decode cX5_copyFrom 18 = .ok (.getfield 41, 3) := by decide +kernel
theorem dX5_copyFrom_21 : decode cX5_copyFrom 21 = .ok (.putfield 41, 3) := by decide +kernel
theorem dX5_copyFrom_24 : decode cX5_copyFrom 24 = .ok (.aload_n 0, 1) := by decide +kernel
theorem dX5_copyFrom_25 : decode cX5_copyFrom 25 = .ok (.aload_n 1, 1) := by decide +kernel
theorem dX5_copyFrom_26 : decode cX5_copyFrom 26 = .ok (.getfield 44, 3) := by decide +kernel
theorem dX5_copyFrom_29 : decode cX5_copyFrom 29 = .ok (.putfield 44, 3) := by decide +kernel
theorem dX5_copyFrom_32 : decode cX5_copyFrom 32 = .ok (.aload_n 1, 1) := by decide +kernel
theorem dX5_copyFrom_33 : decode cX5_copyFrom 33 = .ok (.getfield 15, 3) := by decide +kernel
theorem dX5_copyFrom_36 : decode cX5_copyFrom 36 = .ok (.iconst 0, 1) := by decide +kernel
theorem dX5_copyFrom_37 : decode cX5_copyFrom 37 = .ok (.aload_n 0, 1) := by decide +kernel
theorem dX5_copyFrom_38 : decode cX5_copyFrom 38 = .ok (.getfield 15, 3) := by decide +kernel
theorem dX5_copyFrom_41 : decode cX5_copyFrom 41 = .ok (.iconst 0, 1) := by decide +kernel
theorem dX5_copyFrom_42 : decode cX5_copyFrom 42 = .ok (.bipush 8, 2) := by decide +kernel
theorem dX5_copyFrom_44 : decode cX5_copyFrom 44 = .ok (.invokestatic 51, 3) := by decide +kernel
theorem dX5_copyFrom_47 : decode cX5_copyFrom 47 = .ok (.aload_n 1, 1) := by decide +kernel
theorem dX5_copyFrom_48 : decode cX5_copyFrom 48 = .ok (.getfield 19, 3) := by decide +kernel
theorem dX5_copyFrom_51 : decode cX5_copyFrom 51 = .ok (.iconst 0, 1) := by decide +kernel
theorem dX5_copyFrom_52 : decode cX5_copyFrom 52 = .ok (.aload_n 0, 1) := by decide +kernel
theorem dX5_copyFrom_53 : decode cX5_copyFrom 53 = .ok (.getfield 19, 3) := by decide +kernel
theorem dX5_copyFrom_56 : decode cX5_copyFrom 56 = .ok (.iconst 0, 1) := by decide +kernel
theorem dX5_copyFrom_57 : decode cX5_copyFrom 57 = .ok (.bipush 8, 2) := by decide +kernel
theorem dX5_copyFrom_59 : decode cX5_copyFrom 59 = .ok (.invokestatic 51, 3) := by decide +kernel
theorem dX5_copyFrom_62 : decode cX5_copyFrom 62 = .ok (.aload_n 1, 1) := by decide +kernel
theorem dX5_copyFrom_63 : decode cX5_copyFrom 63 = .ok (.getfield 22, 3) := by decide +kernel
theorem dX5_copyFrom_66 : decode cX5_copyFrom 66 = .ok (.iconst 0, 1) := by decide +kernel
theorem dX5_copyFrom_67 : decode cX5_copyFrom 67 = .ok (.aload_n 0, 1) := by decide +kernel
theorem dX5_copyFrom_68 : decode cX5_copyFrom 68 = .ok (.getfield 22, 3) := by decide +kernel
theorem dX5_copyFrom_71 : decode cX5_copyFrom 71 = .ok (.iconst 0, 1) := by decide +kernel
theorem dX5_copyFrom_72 : decode cX5_copyFrom 72 = .ok (.bipush 12, 2) := by decide +kernel
theorem dX5_copyFrom_74 : decode cX5_copyFrom 74 = .ok (.invokestatic 51, 3) := by decide +kernel
theorem dX5_copyFrom_77 : decode cX5_copyFrom 77 = .ok (.aload_n 1, 1) := by decide +kernel
theorem dX5_copyFrom_78 : decode cX5_copyFrom 78 = .ok (.getfield 25, 3) := by decide +kernel
theorem dX5_copyFrom_81 : decode cX5_copyFrom 81 = .ok (.iconst 0, 1) := by decide +kernel
theorem dX5_copyFrom_82 : decode cX5_copyFrom 82 = .ok (.aload_n 0, 1) := by decide +kernel
theorem dX5_copyFrom_83 : decode cX5_copyFrom 83 = .ok (.getfield 25, 3) := by decide +kernel
theorem dX5_copyFrom_86 : decode cX5_copyFrom 86 = .ok (.iconst 0, 1) := by decide +kernel
theorem dX5_copyFrom_87 : decode cX5_copyFrom 87 = .ok (.bipush 40, 2) := by decide +kernel
theorem dX5_copyFrom_89 : decode cX5_copyFrom 89 = .ok (.invokestatic 51, 3) := by decide +kernel
theorem dX5_copyFrom_92 : decode cX5_copyFrom 92 = .ok (.aload_n 1, 1) := by decide +kernel
theorem dX5_copyFrom_93 : decode cX5_copyFrom 93 = .ok (.getfield 28, 3) := by decide +kernel
theorem dX5_copyFrom_96 : decode cX5_copyFrom 96 = .ok (.iconst 0, 1) := by decide +kernel
theorem dX5_copyFrom_97 : decode cX5_copyFrom 97 = .ok (.aload_n 0, 1) := by decide +kernel
theorem dX5_copyFrom_98 : decode cX5_copyFrom 98 = .ok (.getfield 28, 3) := by decide +kernel
theorem dX5_copyFrom_101 : decode cX5_copyFrom 101 = .ok (.iconst 0, 1) := by decide +kernel
theorem dX5_copyFrom_102 : decode cX5_copyFrom 102 = .ok (.iconst 2, 1) := by decide +kernel
theorem dX5_copyFrom_103 : decode cX5_copyFrom 103 = .ok (.invokestatic 51, 3) := by decide +kernel
theorem dX5_copyFrom_106 : decode cX5_copyFrom 106 = .ok (.aload_n 0, 1) := by decide +kernel
theorem dX5_copyFrom_107 : decode cX5_copyFrom 107 = .ok (.getfield 34, 3) := by decide +kernel
theorem dX5_copyFrom_110 : decode cX5_copyFrom 110 = .ok (.aload_n 1, 1) := by decide +kernel
theorem dX5_copyFrom_111 : decode cX5_copyFrom 111 = .ok (.getfield 34, 3) := by decide +kernel
theorem dX5_copyFrom_114 : decode cX5_copyFrom 114 = .ok (.invokevirtual 57, 3) := by decide +kernel
theorem dX5_copyFrom_117 : decode cX5_copyFrom 117 = .ok (.return_, 1) := by decide +kernel
theorem dX5_didHold_0 : decode cX5_didHold 0 = .ok (.aload_n 0, 1) := by decide +kernel
theorem dX5_didHold_1 : decode cX5_didHold 1 = .ok (.getfield 44, 3) := by decide +kernel
theorem dX5_didHold_4 : decode cX5_didHold 4 = .ok (.iload_n 1, 1) := by decide +kernel
theorem dX5_didHold_5 : decode cX5_didHold 5 = .ok (.lushr, 1) := by decide +kernel
theorem dX5_didHold_6 : decode cX5_didHold 6 = .ok (.lconst 1, 1) := by decide +kernel
theorem dX5_didHold_7 : decode cX5_didHold 7 = .ok (.land, 1) := by decide +kernel
theorem dX5_didHold_8 : decode cX5_didHold 8 = .ok (.lconst 1, 1) := by decide +kernel
theorem dX5_didHold_9 : decode cX5_didHold 9 = .ok (.lcmp, 1) := by decide +kernel
theorem dX5_didHold_10 : decode cX5_didHold 10 = .ok (.ifCond .ne 7, 3) := by decide +kernel
theorem dX5_didHold_13 : decode cX5_didHold 13 = .ok (.iconst 1, 1) := by decide +kernel
theorem dX5_didHold_14 : decode cX5_didHold 14 = .ok (.goto 4, 3) := by decide +kernel
theorem dX5_didHold_17 : decode cX5_didHold 17 = .ok (.iconst 0, 1) := by decide +kernel
theorem dX5_didHold_18 : decode cX5_didHold 18 = .ok (.ireturn, 1) := by decide +kernel
theorem dX5_keepHolding_0 : decode cX5_keepHolding 0 = .ok (.aload_n 0, 1) := by decide +kernel
theorem dX5_keepHolding_1 : decode cX5_keepHolding 1 = .ok (.iload_n 2, 1) := by decide +kernel
theorem dX5_keepHolding_2 : decode cX5_keepHolding 2 = .ok (.ifCond .eq 14, 3) := by decide +kernel
theorem dX5_keepHolding_5 : decode cX5_keepHolding 5 = .ok (.aload_n 0, 1) := by decide +kernel
theorem dX5_keepHolding_6 : decode cX5_keepHolding 6 = .ok (.getfield 44, 3) := by decide +kernel
theorem dX5_keepHolding_9 : decode cX5_keepHolding 9 = .ok (.lconst 1, 1) := by decide +kernel
theorem dX5_keepHolding_10 : decode cX5_keepHolding 10 = .ok (.iload_n 1, 1) := by decide +kernel
theorem dX5_keepHolding_11 : decode cX5_keepHolding 11 = .ok (.lshl, 1) := by decide +kernel
theorem dX5_keepHolding_12 : decode cX5_keepHolding 12 = .ok (.lor, 1) := by decide +kernel
theorem dX5_keepHolding_13 : decode cX5_keepHolding 13 = .ok (.goto 15, 3) := by decide +kernel
theorem dX5_keepHolding_16 : decode cX5_keepHolding 16 = .ok (.aload_n 0, 1) := by decide +kernel
theorem dX5_keepHolding_17 : decode cX5_keepHolding 17 = .ok (.getfield 44, 3) := by decide +kernel
theorem dX5_keepHolding_20 : decode cX5_keepHolding 20 = .ok (.lconst 1, 1) := by decide +kernel
theorem dX5_keepHolding_21 : decode cX5_keepHolding 21 = .ok (.iload_n 1, 1) := by decide +kernel
theorem dX5_keepHolding_22 : decode cX5_keepHolding 22 = .ok (.lshl, 1) := by decide +kernel
theorem dX5_keepHolding_23 : decode cX5_keepHolding 23 = .ok (.ldc2_w 61, 3) := by decide +kernel
theorem dX5_keepHolding_26 : decode cX5_keepHolding 26 = .ok (.lxor, 1) := by decide +kernel
theorem dX5_keepHolding_27 : decode cX5_keepHolding 27 = .ok (.land, 1) := by decide +kernel
theorem dX5_keepHolding_28 : decode cX5_keepHolding 28 = .ok (.putfield 44, 3) := by decide +kernel
theorem dX5_keepHolding_31 : decode cX5_keepHolding 31 = .ok (.return_, 1) := by decide +kernel
theorem dX5_write_0 : decode cX5_write 0 = .ok (.aload_n 0, 1) := by decide +kernel
theorem dX5_write_1 : decode cX5_write 1 = .ok (.iload_n 2, 1) := by decide +kernel
theorem dX5_write_2 : decode cX5_write 2 = .ok (.ifCond .eq 14, 3) := by decide +kernel
theorem dX5_write_5 : decode cX5_write 5 = .ok (.aload_n 0, 1) := by decide +kernel
theorem dX5_write_6 : decode cX5_write 6 = .ok (.getfield 38, 3) := by decide +kernel
theorem dX5_write_9 : decode cX5_write 9 = .ok (.iconst 1, 1) := by decide +kernel
theorem dX5_write_10 : decode cX5_write 10 = .ok (.iload_n 1, 1) := by decide +kernel
theorem dX5_write_11 : decode cX5_write 11 = .ok (.ishl, 1) := by decide +kernel
theorem dX5_write_12 : decode cX5_write 12 = .ok (.ior, 1) := by decide +kernel
theorem dX5_write_13 : decode cX5_write 13 = .ok (.goto 13, 3) := by decide +kernel
theorem dX5_write_16 : decode cX5_write 16 = .ok (.aload_n 0, 1) := by decide +kernel
theorem dX5_write_17 : decode cX5_write 17 = .ok (.getfield 38, 3) := by decide +kernel
theorem dX5_write_20 : decode cX5_write 20 = .ok (.iconst 1, 1) := by decide +kernel
theorem dX5_write_21 : decode cX5_write 21 = .ok (.iload_n 1, 1) := by decide +kernel
theorem dX5_write_22 : decode cX5_write 22 = .ok (.ishl, 1) := by decide +kernel
theorem dX5_write_23 : decode cX5_write 23 = .ok (.iconst (-1), 1) := by decide +kernel
theorem dX5_write_24 : decode cX5_write 24 = .ok (.ixor, 1) := by decide +kernel
theorem dX5_write_25 : decode cX5_write 25 = .ok (.iand, 1) := by decide +kernel
theorem dX5_write_26 : decode cX5_write 26 = .ok (.putfield 38, 3) := by decide +kernel
theorem dX5_write_29 : decode cX5_write 29 = .ok (.return_, 1) := by decide +kernel
theorem dX6_init_0 : decode cX6_init 0 = .ok (.aload_n 0, 1) := by decide +kernel
theorem dX6_init_1 : decode cX6_init 1 = .ok (.invokespecial 3, 3) := by decide +kernel
theorem dX6_init_4 : decode cX6_init 4 = .ok (.aload_n 0, 1) := by decide +kernel
theorem dX6_init_5 : decode cX6_init 5 = .ok (.iconst 3, 1) := by decide +kernel
theorem dX6_init_6 : decode cX6_init 6 = .ok (.newarray .char, 2) := by decide +kernel
theorem dX6_init_8 : decode cX6_init 8 = .ok (.putfield 9, 3) := by decide +kernel
theorem dX6_init_11 : decode cX6_init 11 = .ok (.aload_n 0, 1) := by decide +kernel
theorem dX6_init_12 : decode cX6_init 12 = .ok (.iconst 3, 1) := by decide +kernel
theorem dX6_init_13 : decode cX6_init 13 = .ok (.newarray .int, 2) := by decide +kernel
theorem dX6_init_15 : decode cX6_init 15 = .ok (.putfield 15, 3) := by decide +kernel
theorem dX6_init_18 : decode cX6_init 18 = .ok (.aload_n 0, 1) := by decide +kernel
theorem dX6_init_19 : decode cX6_init 19 = .ok (.iconst 3, 1) := by decide +kernel
theorem dX6_init_20 : decode cX6_init 20 = .ok (.newarray .int, 2) := by decide +kernel
theorem dX6_init_22 : decode cX6_init 22 = .ok (.putfield 19, 3) := by decide +kernel
theorem dX6_init_25 : decode cX6_init 25 = .ok (.return_, 1) := by decide +kernel
theorem dX6_copyFrom_0 : decode cX6_copyFrom 0 = .ok (.aload_n 0, 1) := by decide +kernel
theorem dX6_copyFrom_1 : decode cX6_copyFrom 1 = .ok (.aload_n 1, 1) := by decide +kernel
theorem dX6_copyFrom_2 : decode cX6_copyFrom 2 = .ok (.getfield 22, 3) := by decide +kernel
theorem dX6_copyFrom_5 : decode cX6_copyFrom 5 = .ok (.putfield 22, 3) := by decide +kernel
theorem dX6_copyFrom_8 : decode cX6_copyFrom 8 = .ok (.iconst 0, 1) := by decide +kernel
theorem dX6_copyFrom_9 : decode cX6_copyFrom 9 = .ok (.istore_n 2, 1) := by decide +kernel
theorem dX6_copyFrom_10 : decode cX6_copyFrom 10 = .ok (.iload_n 2, 1) := by decide +kernel
theorem dX6_copyFrom_11 : decode cX6_copyFrom 11 = .ok (.iconst 3, 1) := by decide +kernel
theorem dX6_copyFrom_12 : decode cX6_copyFrom 12 = .ok (.if_icmp .ge 45, 3) := by decide +kernel
theorem dX6_copyFrom_15 : decode cX6_copyFrom 15 = .ok (.aload_n 0, 1) := by decide +kernel
theorem dX6_copyFrom_16 : decode cX6_copyFrom 16 = .ok (.getfield 9, 3) := by decide +kernel
theorem dX6_copyFrom_19 : decode cX6_copyFrom 19 = .ok (.iload_n 2, 1) := by decide +kernel
theorem dX6_copyFrom_20 : decode cX6_copyFrom 20 = .ok (.aload_n 1, 1) := by decide +kernel
theorem dX6_copyFrom_21 : decode cX6_copyFrom 21 = .ok (.getfield 9, 3) := by decide +kernel
theorem dX6_copyFrom_24 : decode cX6_copyFrom 24 = .ok (.iload_n 2, 1) := by decide +kernel
theorem dX6_copyFrom_25 : decode cX6_copyFrom 25 = .ok (.caload, 1) := by decide +kernel
theorem dX6_copyFrom_26 : decode cX6_copyFrom 26 = .ok (.castore, 1) := by decide +kernel
theorem dX6_copyFrom_27 : decode cX6_copyFrom 27 = .ok (.aload_n 0, 1) := by decide +kernel
theorem dX6_copyFrom_28 : decode cX6_copyFrom 28 = .ok (.getfield 15, 3) := by decide +kernel
theorem dX6_copyFrom_31 : decode cX6_copyFrom 31 = .ok (.iload_n 2, 1) := by decide +kernel
theorem dX6_copyFrom_32 : decode cX6_copyFrom 32 = .ok (.aload_n 1, 1) := by decide +kernel
theorem dX6_copyFrom_33 : decode cX6_copyFrom 33 = .ok (.getfield 15, 3) := by decide +kernel
theorem dX6_copyFrom_36 : decode cX6_copyFrom 36 = .ok (.iload_n 2, 1) := by decide +kernel
theorem dX6_copyFrom_37 : decode cX6_copyFrom 37 = .ok (.iaload, 1) := by decide +kernel
theorem dX6_copyFrom_38 : decode cX6_copyFrom 38 = .ok (.iastore, 1) := by decide +kernel
theorem dX6_copyFrom_39 : decode cX6_copyFrom 39 = .ok (.aload_n 0, 1) := by decide +kernel
theorem dX6_copyFrom_40 : decode cX6_copyFrom 40 = .ok (.getfield 19, 3) := by decide +kernel
theorem dX6_copyFrom_43 : decode cX6_copyFrom 43 = .ok (.iload_n 2, 1) := by decide +kernel
theorem dX6_copyFrom_44 : decode cX6_copyFrom 44 = .ok (.aload_n 1, 1) := by decide +kernel
theorem dX6_copyFrom_45 : decode cX6_copyFrom 45 = .ok (.getfield 19, 3) := by decide +kernel
theorem dX6_copyFrom_48 : decode cX6_copyFrom 48 = .ok (.iload_n 2, 1) := by decide +kernel
theorem dX6_copyFrom_49 : decode cX6_copyFrom 49 = .ok (.iaload, 1) := by decide +kernel
theorem dX6_copyFrom_50 : decode cX6_copyFrom 50 = .ok (.iastore, 1) := by decide +kernel
theorem dX6_copyFrom_51 : decode cX6_copyFrom 51 = .ok (.iinc 2 1, 3) := by decide +kernel
theorem dX6_copyFrom_54 : decode cX6_copyFrom 54 = .ok (.goto (-44), 3) := by decide +kernel
theorem dX6_copyFrom_57 : decode cX6_copyFrom 57 = .ok (.return_, 1) := by decide +kernel
theorem dX7_init_0 : decode cX7_init 0 = .ok (.aload_n 0, 1) := by decide +kernel
theorem dX7_init_1 : decode cX7_init 1 = .ok (.invokespecial 3, 3) := by decide +kernel
theorem dX7_init_4 : decode cX7_init 4 = .ok (.aload_n 0, 1) := by decide +kernel
theorem dX7_init_5 : decode cX7_init 5 = .ok (.bipush 40, 2) := by decide +kernel
theorem dX7_init_7 : decode cX7_init 7 = .ok (.putfield 9, 3) := by decide +kernel
theorem dX7_init_10 : decode cX7_init 10 = .ok (.aload_n 0, 1) := by decide +kernel
theorem dX7_init_11 : decode cX7_init 11 = .ok (.iload_n 1, 1) := by decide +kernel
theorem dX7_init_12 : decode cX7_init 12 = .ok (.putfield 15, 3) := by decide +kernel
theorem dX7_init_15 : decode cX7_init 15 = .ok (.return_, 1) := by decide +kernel
theorem dX7_isDueAt_0 : decode cX7_isDueAt 0 = .ok (.aload_n 0, 1) := by decide +kernel
theorem dX7_isDueAt_1 : decode cX7_isDueAt 1 = .ok (.getfield 15, 3) := by decide +kernel
theorem dX7_isDueAt_4 : decode cX7_isDueAt 4 = .ok (.ifCond .le 16, 3) := by decide +kernel
theorem dX7_isDueAt_7 : decode cX7_isDueAt 7 = .ok (.iload_n 1, 1) := by decide +kernel
theorem dX7_isDueAt_8 : decode cX7_isDueAt 8 = .ok (.aload_n 0, 1) := by decide +kernel
theorem dX7_isDueAt_9 : decode cX7_isDueAt 9 = .ok (.getfield 15, 3) := by decide +kernel
theorem dX7_isDueAt_12 : decode cX7_isDueAt 12 = .ok (.irem, 1) := by decide +kernel
theorem dX7_isDueAt_13 : decode cX7_isDueAt 13 = .ok (.ifCond .ne 7, 3) := by decide +kernel
theorem dX7_isDueAt_16 : decode cX7_isDueAt 16 = .ok (.iconst 1, 1) := by decide +kernel
theorem dX7_isDueAt_17 : decode cX7_isDueAt 17 = .ok (.goto 4, 3) := by decide +kernel
theorem dX7_isDueAt_20 : decode cX7_isDueAt 20 = .ok (.iconst 0, 1) := by decide +kernel
theorem dX7_isDueAt_21 : decode cX7_isDueAt 21 = .ok (.ireturn, 1) := by decide +kernel
theorem dX8_init_0 : decode cX8_init 0 = .ok (.aload_n 0, 1) := by decide +kernel
theorem dX8_init_1 : decode cX8_init 1 = .ok (.invokespecial 1, 3) := by decide +kernel
theorem dX8_init_4 : decode cX8_init 4 = .ok (.return_, 1) := by decide +kernel
theorem dX8_copyFrom_0 : decode cX8_copyFrom 0 = .ok (.aload_n 0, 1) := by decide +kernel
theorem dX8_copyFrom_1 : decode cX8_copyFrom 1 = .ok (.aload_n 1, 1) := by decide +kernel
theorem dX8_copyFrom_2 : decode cX8_copyFrom 2 = .ok (.getfield 7, 3) := by decide +kernel
theorem dX8_copyFrom_5 : decode cX8_copyFrom 5 = .ok (.putfield 7, 3) := by decide +kernel
theorem dX8_copyFrom_8 : decode cX8_copyFrom 8 = .ok (.aload_n 0, 1) := by decide +kernel
theorem dX8_copyFrom_9 : decode cX8_copyFrom 9 = .ok (.aload_n 1, 1) := by decide +kernel
theorem dX8_copyFrom_10 : decode cX8_copyFrom 10 = .ok (.getfield 13, 3) := by decide +kernel
theorem dX8_copyFrom_13 : decode cX8_copyFrom 13 = .ok (.putfield 13, 3) := by decide +kernel
theorem dX8_copyFrom_16 : decode cX8_copyFrom 16 = .ok (.aload_n 0, 1) := by decide +kernel
theorem dX8_copyFrom_17 : decode cX8_copyFrom 17 = .ok (.aload_n 1, 1) := by decide +kernel
theorem dX8_copyFrom_18 : decode cX8_copyFrom 18 = .ok (.getfield 16, 3) := by decide +kernel
theorem dX8_copyFrom_21 : decode cX8_copyFrom 21 = .ok (.putfield 16, 3) := by decide +kernel
theorem dX8_copyFrom_24 : decode cX8_copyFrom 24 = .ok (.aload_n 0, 1) := by decide +kernel
theorem dX8_copyFrom_25 : decode cX8_copyFrom 25 = .ok (.aload_n 1, 1) := by decide +kernel
theorem dX8_copyFrom_26 : decode cX8_copyFrom 26 = .ok (.getfield 19, 3) := by decide +kernel
theorem dX8_copyFrom_29 : decode cX8_copyFrom 29 = .ok (.putfield 19, 3) := by decide +kernel
theorem dX8_copyFrom_32 : decode cX8_copyFrom 32 = .ok (.return_, 1) := by decide +kernel
theorem dX9_init_0 : decode cX9_init 0 = .ok (.aload_n 0, 1) := by decide +kernel
theorem dX9_init_1 : decode cX9_init 1 = .ok (.invokespecial 1, 3) := by decide +kernel
theorem dX9_init_4 : decode cX9_init 4 = .ok (.aload_n 0, 1) := by decide +kernel
theorem dX9_init_5 : decode cX9_init 5 = .ok (.new 7, 3) := by decide +kernel
theorem dX9_init_8 : decode cX9_init 8 = .ok (.dup, 1) := by decide +kernel
theorem dX9_init_9 : decode cX9_init 9 = .ok (.invokespecial 9, 3) := by decide +kernel
theorem dX9_init_12 : decode cX9_init 12 = .ok (.putfield 10, 3) := by decide +kernel
theorem dX9_init_15 : decode cX9_init 15 = .ok (.aload_n 0, 1) := by decide +kernel
theorem dX9_init_16 : decode cX9_init 16 = .ok (.new 7, 3) := by decide +kernel
theorem dX9_init_19 : decode cX9_init 19 = .ok (.dup, 1) := by decide +kernel
theorem dX9_init_20 : decode cX9_init 20 = .ok (.invokespecial 9, 3) := by decide +kernel
theorem dX9_init_23 : decode cX9_init 23 = .ok (.putfield 16, 3) := by decide +kernel
theorem dX9_init_26 : decode cX9_init 26 = .ok (.aload_n 0, 1) := by decide +kernel
theorem dX9_init_27 : decode cX9_init 27 = .ok (.new 19, 3) := by decide +kernel
theorem dX9_init_30 : decode cX9_init 30 = .ok (.dup, 1) := by decide +kernel
theorem dX9_init_31 : decode cX9_init 31 = .ok (.invokespecial 21, 3) := by decide +kernel
theorem dX9_init_34 : decode cX9_init 34 = .ok (.putfield 22, 3) := by decide +kernel
theorem dX9_init_37 : decode cX9_init 37 = .ok (.aload_n 0, 1) := by decide +kernel
theorem dX9_init_38 : decode cX9_init 38 = .ok (.new 19, 3) := by decide +kernel
theorem dX9_init_41 : decode cX9_init 41 = .ok (.dup, 1) := by decide +kernel
theorem dX9_init_42 : decode cX9_init 42 = .ok (.invokespecial 21, 3) := by decide +kernel
theorem dX9_init_45 : decode cX9_init 45 = .ok (.putfield 26, 3) := by decide +kernel
theorem dX9_init_48 : decode cX9_init 48 = .ok (.aload_n 0, 1) := by decide +kernel
theorem dX9_init_49 : decode cX9_init 49 = .ok (.new 29, 3) := by decide +kernel
theorem dX9_init_52 : decode cX9_init 52 = .ok (.dup, 1) := by decide +kernel
theorem dX9_init_53 : decode cX9_init 53 = .ok (.invokespecial 31, 3) := by decide +kernel
theorem dX9_init_56 : decode cX9_init 56 = .ok (.putfield 32, 3) := by decide +kernel
theorem dX9_init_59 : decode cX9_init 59 = .ok (.aload_n 0, 1) := by decide +kernel
theorem dX9_init_60 : decode cX9_init 60 = .ok (.new 36, 3) := by decide +kernel
theorem dX9_init_63 : decode cX9_init 63 = .ok (.dup, 1) := by decide +kernel
theorem dX9_init_64 : decode cX9_init 64 = .ok (.invokespecial 38, 3) := by decide +kernel
theorem dX9_init_67 : decode cX9_init 67 = .ok (.putfield 39, 3) := by decide +kernel
theorem dX9_init_70 : decode cX9_init 70 = .ok (.aload_n 0, 1) := by decide +kernel
theorem dX9_init_71 : decode cX9_init 71 = .ok (.iconst 2, 1) := by decide +kernel
theorem dX9_init_72 : decode cX9_init 72 = .ok (.anewarray 43, 3) := by decide +kernel
theorem dX9_init_75 : decode cX9_init 75 = .ok (.dup, 1) := by decide +kernel
theorem dX9_init_76 : decode cX9_init 76 = .ok (.iconst 0, 1) := by decide +kernel
theorem dX9_init_77 : decode cX9_init 77 = .ok (.new 43, 3) := by decide +kernel
theorem dX9_init_80 : decode cX9_init 80 = .ok (.dup, 1) := by decide +kernel
theorem dX9_init_81 : decode cX9_init 81 = .ok (.bipush 10, 2) := by decide +kernel
theorem dX9_init_83 : decode cX9_init 83 = .ok (.invokespecial 45, 3) := by decide +kernel
theorem dX9_init_86 : decode cX9_init 86 = .ok (.aastore, 1) := by decide +kernel
theorem dX9_init_87 : decode cX9_init 87 = .ok (.dup, 1) := by decide +kernel
theorem dX9_init_88 : decode cX9_init 88 = .ok (.iconst 1, 1) := by decide +kernel
theorem dX9_init_89 : decode cX9_init 89 = .ok (.new 43, 3) := by decide +kernel
theorem dX9_init_92 : decode cX9_init 92 = .ok (.dup, 1) := by decide +kernel
theorem dX9_init_93 : decode cX9_init 93 = .ok (.iconst 0, 1) := by decide +kernel
theorem dX9_init_94 : decode cX9_init 94 = .ok (.invokespecial 45, 3) := by decide +kernel
theorem dX9_init_97 : decode cX9_init 97 = .ok (.aastore, 1) := by decide +kernel
theorem dX9_init_98 : decode cX9_init 98 = .ok (.putfield 48, 3) := by decide +kernel
theorem dX9_init_101 : decode cX9_init 101 = .ok (.aload_n 0, 1) := by decide +kernel
theorem dX9_init_102 : decode cX9_init 102 = .ok (.iconst (-1), 1) := by decide +kernel
theorem dX9_init_103 : decode cX9_init 103 = .ok (.putfield 52, 3) := by decide +kernel
theorem dX9_init_106 : decode cX9_init 106 = .ok (.return_, 1) := by decide +kernel
theorem dX9_rung_0 : decode cX9_rung 0 = .ok (.iload_n 1, 1) := by decide +kernel
theorem dX9_rung_1 : decode cX9_rung 1 = .ok (.invokestatic 56, 3) := by decide +kernel
theorem dX9_rung_4 : decode cX9_rung 4 = .ok (.ifCond .eq 16, 3) := by decide +kernel
theorem dX9_rung_7 : decode cX9_rung 7 = .ok (.ldc 60, 2) := by decide +kernel
theorem dX9_rung_9 : decode cX9_rung 9 = .ok (.iload_n 2, 1) := by decide +kernel
theorem dX9_rung_10 : decode cX9_rung 10 = .ok (.invokevirtual 62, 3) := by decide +kernel
theorem dX9_rung_13 : decode cX9_rung 13 = .ok (.ifCond .lt 7, 3) := by decide +kernel
theorem dX9_rung_16 : decode cX9_rung 16 = .ok (.iconst 1, 1) := by decide +kernel
theorem dX9_rung_17 : decode cX9_rung 17 = .ok (.goto 4, 3) := by decide +kernel
theorem dX9_rung_20 : decode cX9_rung 20 = .ok (.iconst 0, 1) := by decide +kernel
theorem dX9_rung_21 : decode cX9_rung 21 = .ok (.invokestatic 68, 3) := by decide +kernel
theorem dX9_rung_24 : decode cX9_rung 24 = .ok (.iload_n 2, 1) := by decide +kernel
theorem dX9_rung_25 : decode cX9_rung 25 = .ok (.iload_n 3, 1) := by decide +kernel
theorem dX9_rung_26 : decode cX9_rung 26 = .ok (.invokestatic 72, 3) := by decide +kernel
theorem dX9_rung_29 : decode cX9_rung 29 = .ok (.ifCond .eq 16, 3) := by decide +kernel
theorem dX9_rung_32 : decode cX9_rung 32 = .ok (.iload_n 2, 1) := by decide +kernel
theorem dX9_rung_33 : decode cX9_rung 33 = .ok (.iload 4, 2) := by decide +kernel
theorem dX9_rung_35 : decode cX9_rung 35 = .ok (.invokestatic 76, 3) := by decide +kernel
theorem dX9_rung_38 : decode cX9_rung 38 = .ok (.ifCond .eq 7, 3) := by decide +kernel
theorem dX9_rung_41 : decode cX9_rung 41 = .ok (.iconst 1, 1) := by decide +kernel
theorem dX9_rung_42 : decode cX9_rung 42 = .ok (.goto 4, 3) := by decide +kernel
theorem dX9_rung_45 : decode cX9_rung 45 = .ok (.iconst 0, 1) := by decide +kernel
theorem dX9_rung_46 : decode cX9_rung 46 = .ok (.invokestatic 68, 3) := by decide +kernel
theorem dX9_rung_49 : decode cX9_rung 49 = .ok (.aload_n 0, 1) := by decide +kernel
theorem dX9_rung_50 : decode cX9_rung 50 = .ok (.getfield 16, 3) := by decide +kernel
theorem dX9_rung_53 : decode cX9_rung 53 = .ok (.getfield 79, 3) := by decide +kernel
theorem dX9_rung_56 : decode cX9_rung 56 = .ok (.bipush 40, 2) := by decide +kernel
theorem dX9_rung_58 : decode cX9_rung 58 = .ok (.if_icmp .lt 11, 3) := by decide +kernel
theorem dX9_rung_61 : decode cX9_rung 61 = .ok (.new 82, 3) := by decide +kernel
theorem dX9_rung_64 : decode cX9_rung 64 = .ok (.dup, 1) := by decide +kernel
theorem dX9_rung_65 : decode cX9_rung 65 = .ok (.invokespecial 84, 3) := by decide +kernel
theorem dX9_rung_68 : decode cX9_rung 68 = .ok (.athrow, 1) := by decide +kernel
theorem dX9_rung_69 : decode cX9_rung 69 = .ok (.aload_n 0, 1) := by decide +kernel
theorem dX9_rung_70 : decode cX9_rung 70 = .ok (.getfield 16, 3) := by decide +kernel
theorem dX9_rung_73 : decode cX9_rung 73 = .ok (.getfield 85, 3) := by decide +kernel
theorem dX9_rung_76 : decode cX9_rung 76 = .ok (.aload_n 0, 1) := by decide +kernel
theorem dX9_rung_77 : decode cX9_rung 77 = .ok (.getfield 16, 3) := by decide +kernel
theorem dX9_rung_80 : decode cX9_rung 80 = .ok (.getfield 79, 3) := by decide +kernel
theorem dX9_rung_83 : decode cX9_rung 83 = .ok (.aaload, 1) := by decide +kernel
theorem dX9_rung_84 : decode cX9_rung 84 = .ok (.astore 5, 2) := by decide +kernel
theorem dX9_rung_86 : decode cX9_rung 86 = .ok (.aload 5, 2) := by decide +kernel
theorem dX9_rung_88 : decode cX9_rung 88 = .ok (.iload_n 1, 1) := by decide +kernel
theorem dX9_rung_89 : decode cX9_rung 89 = .ok (.putfield 89, 3) := by decide +kernel
theorem dX9_rung_92 : decode cX9_rung 92 = .ok (.aload 5, 2) := by decide +kernel
theorem dX9_rung_94 : decode cX9_rung 94 = .ok (.iload_n 2, 1) := by decide +kernel
theorem dX9_rung_95 : decode cX9_rung 95 = .ok (.putfield 94, 3) := by decide +kernel
theorem dX9_rung_98 : decode cX9_rung 98 = .ok (.aload 5, 2) := by decide +kernel
theorem dX9_rung_100 : decode cX9_rung 100 = .ok (.iload_n 3, 1) := by decide +kernel
theorem dX9_rung_101 : decode cX9_rung 101 = .ok (.putfield 98, 3) := by decide +kernel
theorem dX9_rung_104 : decode cX9_rung 104 = .ok (.aload 5, 2) := by decide +kernel
theorem dX9_rung_106 : decode cX9_rung 106 = .ok (.iload 4, 2) := by decide +kernel
theorem dX9_rung_108 : decode cX9_rung 108 = .ok (.putfield 101, 3) := by decide +kernel
theorem dX9_rung_111 : decode cX9_rung 111 = .ok (.aload 5, 2) := by decide +kernel
theorem dX9_rung_113 : decode cX9_rung 113 = .ok (.iconst 0, 1) := by decide +kernel
theorem dX9_rung_114 : decode cX9_rung 114 = .ok (.putfield 104, 3) := by decide +kernel
theorem dX9_rung_117 : decode cX9_rung 117 = .ok (.aload_n 0, 1) := by decide +kernel
theorem dX9_rung_118 : decode cX9_rung 118 = .ok (.getfield 16, 3) := by decide +kernel
theorem dX9_rung_121 : decode cX9_rung 121 = .ok (.dup, 1) := by decide +kernel
theorem dX9_rung_122 : decode cX9_rung 122 = .ok (.getfield 79, 3) := by decide +kernel
theorem dX9_rung_125 : decode cX9_rung 125 = .ok (.iconst 1, 1) := by decide +kernel
theorem dX9_rung_126 : decode cX9_rung 126 = .ok (.iadd, 1) := by decide +kernel
theorem dX9_rung_127 : decode cX9_rung 127 = .ok (.putfield 79, 3) := by decide +kernel
theorem dX9_rung_130 : decode cX9_rung 130 = .ok (.aload_n 0, 1) := by decide +kernel
theorem dX9_rung_131 : decode cX9_rung 131 = .ok (.getfield 16, 3) := by decide +kernel
theorem dX9_rung_134 : decode cX9_rung 134 = .ok (.getfield 79, 3) := by decide +kernel
theorem dX9_rung_137 : decode cX9_rung 137 = .ok (.iconst 1, 1) := by decide +kernel
theorem dX9_rung_138 : decode cX9_rung 138 = .ok (.isub, 1) := by decide +kernel
theorem dX9_rung_139 : decode cX9_rung 139 = .ok (.ireturn, 1) := by decide +kernel
theorem dX9_contact_0 : decode cX9_contact 0 = .ok (.aload_n 0, 1) := by decide +kernel
theorem dX9_contact_1 : decode cX9_contact 1 = .ok (.getfield 16, 3) := by decide +kernel
theorem dX9_contact_4 : decode cX9_contact 4 = .ok (.iload_n 1, 1) := by decide +kernel
theorem dX9_contact_5 : decode cX9_contact 5 = .ok (.invokevirtual 107, 3) := by decide +kernel
theorem dX9_contact_8 : decode cX9_contact 8 = .ok (.ifCond .ne 11, 3) := by decide +kernel
theorem dX9_contact_11 : decode cX9_contact 11 = .ok (.new 110, 3) := by decide +kernel
theorem dX9_contact_14 : decode cX9_contact 14 = .ok (.dup, 1) := by decide +kernel
theorem dX9_contact_15 : decode cX9_contact 15 = .ok (.invokespecial 112, 3) := by decide +kernel
theorem dX9_contact_18 : decode cX9_contact 18 = .ok (.athrow, 1) := by decide +kernel
theorem dX9_contact_19 : decode cX9_contact 19 = .ok (.ldc 113, 2) := by decide +kernel
theorem dX9_contact_21 : decode cX9_contact 21 = .ok (.iload_n 2, 1) := by decide +kernel
theorem dX9_contact_22 : decode cX9_contact 22 = .ok (.invokevirtual 62, 3) := by decide +kernel
theorem dX9_contact_25 : decode cX9_contact 25 = .ok (.ifCond .lt 14, 3) := by decide +kernel
theorem dX9_contact_28 : decode cX9_contact 28 = .ok (.iload_n 3, 1) := by decide +kernel
theorem dX9_contact_29 : decode cX9_contact 29 = .ok (.invokestatic 115, 3) := by decide +kernel
theorem dX9_contact_32 : decode cX9_contact 32 = .ok (.ifCond .eq 7, 3) := by decide +kernel
theorem dX9_contact_35 : decode cX9_contact 35 = .ok (.iconst 1, 1) := by decide +kernel
theorem dX9_contact_36 : decode cX9_contact 36 = .ok (.goto 4, 3) := by decide +kernel
theorem dX9_contact_39 : decode cX9_contact 39 = .ok (.iconst 0, 1) := by decide +kernel
theorem dX9_contact_40 : decode cX9_contact 40 = .ok (.invokestatic 68, 3) := by decide +kernel
theorem dX9_contact_43 : decode cX9_contact 43 = .ok (.aload_n 0, 1) := by decide +kernel
theorem dX9_contact_44 : decode cX9_contact 44 = .ok (.getfield 16, 3) := by decide +kernel
theorem dX9_contact_47 : decode cX9_contact 47 = .ok (.getfield 85, 3) := by decide +kernel
theorem dX9_contact_50 : decode cX9_contact 50 = .ok (.iload_n 1, 1) := by decide +kernel
theorem dX9_contact_51 : decode cX9_contact 51 = .ok (.aaload, 1) := by decide +kernel
theorem dX9_contact_52 : decode cX9_contact 52 = .ok (.astore 4, 2) := by decide +kernel
theorem dX9_contact_54 : decode cX9_contact 54 = .ok (.aload 4, 2) := by decide +kernel
theorem dX9_contact_56 : decode cX9_contact 56 = .ok (.getfield 104, 3) := by decide +kernel
theorem dX9_contact_59 : decode cX9_contact 59 = .ok (.iconst 4, 1) := by decide +kernel
theorem dX9_contact_60 : decode cX9_contact 60 = .ok (.if_icmp .lt 11, 3) := by decide +kernel
theorem dX9_contact_63 : decode cX9_contact 63 = .ok (.new 82, 3) := by decide +kernel
theorem dX9_contact_66 : decode cX9_contact 66 = .ok (.dup, 1) := by decide +kernel
theorem dX9_contact_67 : decode cX9_contact 67 = .ok (.invokespecial 84, 3) := by decide +kernel
theorem dX9_contact_70 : decode cX9_contact 70 = .ok (.athrow, 1) := by decide +kernel
theorem dX9_contact_71 : decode cX9_contact 71 = .ok (.aload 4, 2) := by decide +kernel
theorem dX9_contact_73 : decode cX9_contact 73 = .ok (.getfield 118, 3) := by decide +kernel
theorem dX9_contact_76 : decode cX9_contact 76 = .ok (.aload 4, 2) := by decide +kernel
theorem dX9_contact_78 : decode cX9_contact 78 = .ok (.getfield 104, 3) := by decide +kernel
theorem dX9_contact_81 : decode cX9_contact 81 = .ok (.iload_n 2, 1) := by decide +kernel
theorem dX9_contact_82 : decode cX9_contact 82 = .ok (.castore, 1) := by decide +kernel
theorem dX9_contact_83 : decode cX9_contact 83 = .ok (.aload 4, 2) := by decide +kernel
theorem dX9_contact_85 : decode cX9_contact 85 = .ok (.getfield 122, 3) := by decide +kernel
theorem dX9_contact_88 : decode cX9_contact 88 = .ok (.aload 4, 2) := by decide +kernel
theorem dX9_contact_90 : decode cX9_contact 90 = .ok (.getfield 104, 3) := by decide +kernel
theorem dX9_contact_93 : decode cX9_contact 93 = .ok (.iload_n 3, 1) := by decide +kernel
theorem dX9_contact_94 : decode cX9_contact 94 = .ok (.iastore, 1) := by decide +kernel
theorem dX9_contact_95 : decode cX9_contact 95 = .ok (.aload 4, 2) := by decide +kernel
theorem dX9_contact_97 : decode cX9_contact 97 = .ok (.dup, 1) := by decide +kernel
theorem dX9_contact_98 : decode cX9_contact 98 = .ok (.getfield 104, 3) := by decide +kernel
theorem dX9_contact_101 : decode cX9_contact 101 = .ok (.iconst 1, 1) := by decide +kernel
theorem dX9_contact_102 : decode cX9_contact 102 = .ok (.iadd, 1) := by decide +kernel
theorem dX9_contact_103 : decode cX9_contact 103 = .ok (.putfield 104, 3) := by decide +kernel
theorem dX9_contact_106 : decode cX9_contact 106 = .ok (.aload 4, 2) := by decide +kernel
theorem dX9_contact_108 : decode cX9_contact 108 = .ok (.getfield 104, 3) := by decide +kernel
theorem dX9_contact_111 : decode cX9_contact 111 = .ok (.ireturn, 1) := by decide +kernel
theorem dX9_step_0 : decode cX9_step 0 = .ok (.aload_n 0, 1) := by decide +kernel
theorem dX9_step_1 : decode cX9_step 1 = .ok (.getfield 16, 3) := by decide +kernel
theorem dX9_step_4 : decode cX9_step 4 = .ok (.getfield 126, 3) := by decide +kernel
theorem dX9_step_7 : decode cX9_step 7 = .ok (.bipush 12, 2) := by decide +kernel
theorem dX9_step_9 : decode cX9_step 9 = .ok (.if_icmp .lt 11, 3) := by decide +kernel
theorem dX9_step_12 : decode cX9_step 12 = .ok (.new 82, 3) := by decide +kernel
theorem dX9_step_15 : decode cX9_step 15 = .ok (.dup, 1) := by decide +kernel
theorem dX9_step_16 : decode cX9_step 16 = .ok (.invokespecial 84, 3) := by decide +kernel
theorem dX9_step_19 : decode cX9_step 19 = .ok (.athrow, 1) := by decide +kernel
theorem dX9_step_20 : decode cX9_step 20 = .ok (.aload_n 0, 1) := by decide +kernel
theorem dX9_step_21 : decode cX9_step 21 = .ok (.getfield 16, 3) := by decide +kernel
theorem dX9_step_24 : decode cX9_step 24 = .ok (.getfield 129, 3) := by decide +kernel
theorem dX9_step_27 : decode cX9_step 27 = .ok (.aload_n 0, 1) := by decide +kernel
theorem dX9_step_28 : decode cX9_step 28 = .ok (.getfield 16, 3) := by decide +kernel
theorem dX9_step_31 : decode cX9_step 31 = .ok (.getfield 126, 3) := by decide +kernel
theorem dX9_step_34 : decode cX9_step 34 = .ok (.aaload, 1) := by decide +kernel
theorem dX9_step_35 : decode cX9_step 35 = .ok (.iconst 0, 1) := by decide +kernel
theorem dX9_step_36 : decode cX9_step 36 = .ok (.putfield 133, 3) := by decide +kernel
theorem dX9_step_39 : decode cX9_step 39 = .ok (.aload_n 0, 1) := by decide +kernel
theorem dX9_step_40 : decode cX9_step 40 = .ok (.getfield 16, 3) := by decide +kernel
theorem dX9_step_43 : decode cX9_step 43 = .ok (.dup, 1) := by decide +kernel
theorem dX9_step_44 : decode cX9_step 44 = .ok (.getfield 126, 3) := by decide +kernel
theorem dX9_step_47 : decode cX9_step 47 = .ok (.iconst 1, 1) := by decide +kernel
theorem dX9_step_48 : decode cX9_step 48 = .ok (.iadd, 1) := by decide +kernel
theorem dX9_step_49 : decode cX9_step 49 = .ok (.putfield 126, 3) := by decide +kernel
theorem dX9_step_52 : decode cX9_step 52 = .ok (.aload_n 0, 1) := by decide +kernel
theorem dX9_step_53 : decode cX9_step 53 = .ok (.getfield 16, 3) := by decide +kernel
theorem dX9_step_56 : decode cX9_step 56 = .ok (.getfield 126, 3) := by decide +kernel
theorem dX9_step_59 : decode cX9_step 59 = .ok (.iconst 1, 1) := by decide +kernel
theorem dX9_step_60 : decode cX9_step 60 = .ok (.isub, 1) := by decide +kernel
theorem dX9_step_61 : decode cX9_step 61 = .ok (.ireturn, 1) := by decide +kernel
theorem dX9_action_0 : decode cX9_action 0 = .ok (.aload_n 0, 1) := by decide +kernel
theorem dX9_action_1 : decode cX9_action 1 = .ok (.getfield 16, 3) := by decide +kernel
theorem dX9_action_4 : decode cX9_action 4 = .ok (.iload_n 1, 1) := by decide +kernel
theorem dX9_action_5 : decode cX9_action 5 = .ok (.invokevirtual 138, 3) := by decide +kernel
theorem dX9_action_8 : decode cX9_action 8 = .ok (.ifCond .ne 11, 3) := by decide +kernel
theorem dX9_action_11 : decode cX9_action 11 = .ok (.new 110, 3) := by decide +kernel
theorem dX9_action_14 : decode cX9_action 14 = .ok (.dup, 1) := by decide +kernel
theorem dX9_action_15 : decode cX9_action 15 = .ok (.invokespecial 112, 3) := by decide +kernel
theorem dX9_action_18 : decode cX9_action 18 = .ok (.athrow, 1) := by decide +kernel
theorem dX9_action_19 : decode cX9_action 19 = .ok (.ldc 141, 2) := by decide +kernel
theorem dX9_action_21 : decode cX9_action 21 = .ok (.iload_n 2, 1) := by decide +kernel
theorem dX9_action_22 : decode cX9_action 22 = .ok (.invokevirtual 62, 3) := by decide +kernel
theorem dX9_action_25 : decode cX9_action 25 = .ok (.ifCond .lt 14, 3) := by decide +kernel
theorem dX9_action_28 : decode cX9_action 28 = .ok (.iload_n 3, 1) := by decide +kernel
theorem dX9_action_29 : decode cX9_action 29 = .ok (.invokestatic 143, 3) := by decide +kernel
theorem dX9_action_32 : decode cX9_action 32 = .ok (.ifCond .eq 7, 3) := by decide +kernel
theorem dX9_action_35 : decode cX9_action 35 = .ok (.iconst 1, 1) := by decide +kernel
theorem dX9_action_36 : decode cX9_action 36 = .ok (.goto 4, 3) := by decide +kernel
theorem dX9_action_39 : decode cX9_action 39 = .ok (.iconst 0, 1) := by decide +kernel
theorem dX9_action_40 : decode cX9_action 40 = .ok (.invokestatic 68, 3) := by decide +kernel
theorem dX9_action_43 : decode cX9_action 43 = .ok (.iload_n 2, 1) := by decide +kernel
theorem dX9_action_44 : decode cX9_action 44 = .ok (.bipush 100, 2) := by decide +kernel
theorem dX9_action_46 : decode cX9_action 46 = .ok (.if_icmp .eq 9, 3) := by decide +kernel
theorem dX9_action_49 : decode cX9_action 49 = .ok (.iload_n 2, 1) := by decide +kernel
theorem dX9_action_50 : decode cX9_action 50 = .ok (.bipush 108, 2) := by decide +kernel
theorem dX9_action_52 : decode cX9_action 52 = .ok (.if_icmp .ne 15, 3) := by decide +kernel
theorem dX9_action_55 : decode cX9_action 55 = .ok (.iload 4, 2) := by decide +kernel
theorem dX9_action_57 : decode cX9_action 57 = .ok (.iconst 1, 1) := by decide +kernel
theorem dX9_action_58 : decode cX9_action 58 = .ok (.sipush 999, 3) := by decide +kernel
theorem dX9_action_61 : decode cX9_action 61 = .ok (.invokestatic 146, 3) := by decide +kernel
theorem dX9_action_64 : decode cX9_action 64 = .ok (.ifCond .eq 7, 3) := by decide +kernel
theorem dX9_action_67 : decode cX9_action 67 = .ok (.iconst 1, 1) := by decide +kernel
theorem dX9_action_68 : decode cX9_action 68 = .ok (.goto 4, 3) := by decide +kernel
theorem dX9_action_71 : decode cX9_action 71 = .ok (.iconst 0, 1) := by decide +kernel
theorem dX9_action_72 : decode cX9_action 72 = .ok (.invokestatic 68, 3) := by decide +kernel
theorem dX9_action_75 : decode cX9_action 75 = .ok (.aload_n 0, 1) := by decide +kernel
theorem dX9_action_76 : decode cX9_action 76 = .ok (.getfield 16, 3) := by decide +kernel
theorem dX9_action_79 : decode cX9_action 79 = .ok (.getfield 129, 3) := by decide +kernel
theorem dX9_action_82 : decode cX9_action 82 = .ok (.iload_n 1, 1) := by decide +kernel
theorem dX9_action_83 : decode cX9_action 83 = .ok (.aaload, 1) := by decide +kernel
theorem dX9_action_84 : decode cX9_action 84 = .ok (.astore 5, 2) := by decide +kernel
theorem dX9_action_86 : decode cX9_action 86 = .ok (.aload 5, 2) := by decide +kernel
theorem dX9_action_88 : decode cX9_action 88 = .ok (.getfield 133, 3) := by decide +kernel
theorem dX9_action_91 : decode cX9_action 91 = .ok (.iconst 3, 1) := by decide +kernel
theorem dX9_action_92 : decode cX9_action 92 = .ok (.if_icmp .lt 11, 3) := by decide +kernel
theorem dX9_action_95 : decode cX9_action 95 = .ok (.new 82, 3) := by decide +kernel
theorem dX9_action_98 : decode cX9_action 98 = .ok (.dup, 1) := by decide +kernel
theorem dX9_action_99 : decode cX9_action 99 = .ok (.invokespecial 84, 3) := by decide +kernel
theorem dX9_action_102 : decode cX9_action 102 = .ok (.athrow, 1) := by decide +kernel
theorem dX9_action_103 : decode cX9_action 103 = .ok (.aload 5, 2) := by decide +kernel
theorem dX9_action_105 : decode cX9_action 105 = .ok (.getfield 150, 3) := by decide +kernel
theorem dX9_action_108 : decode cX9_action 108 = .ok (.aload 5, 2) := by decide +kernel
theorem dX9_action_110 : decode cX9_action 110 = .ok (.getfield 133, 3) := by decide +kernel
theorem dX9_action_113 : decode cX9_action 113 = .ok (.iload_n 2, 1) := by decide +kernel
theorem dX9_action_114 : decode cX9_action 114 = .ok (.castore, 1) := by decide +kernel
theorem dX9_action_115 : decode cX9_action 115 = .ok (.aload 5, 2) := by decide +kernel
theorem dX9_action_117 : decode cX9_action 117 = .ok (.getfield 153, 3) := by decide +kernel
theorem dX9_action_120 : decode cX9_action 120 = .ok (.aload 5, 2) := by decide +kernel
theorem dX9_action_122 : decode cX9_action 122 = .ok (.getfield 133, 3) := by decide +kernel
theorem dX9_action_125 : decode cX9_action 125 = .ok (.iload_n 3, 1) := by decide +kernel
theorem dX9_action_126 : decode cX9_action 126 = .ok (.iastore, 1) := by decide +kernel
theorem dX9_action_127 : decode cX9_action 127 = .ok (.aload 5, 2) := by decide +kernel
theorem dX9_action_129 : decode cX9_action 129 = .ok (.getfield 156, 3) := by decide +kernel
theorem dX9_action_132 : decode cX9_action 132 = .ok (.aload 5, 2) := by decide +kernel
theorem dX9_action_134 : decode cX9_action 134 = .ok (.getfield 133, 3) := by decide +kernel
theorem dX9_action_137 : decode cX9_action 137 = .ok (.iload 4, 2) := by decide +kernel
theorem dX9_action_139 : decode cX9_action 139 = .ok (.iastore, 1) := by decide +kernel
theorem dX9_action_140 : decode cX9_action 140 = .ok (.aload 5, 2) := by decide +kernel
theorem dX9_action_142 : decode cX9_action 142 = .ok (.dup, 1) := by decide +kernel
theorem dX9_action_143 : decode cX9_action 143 = .ok (.getfield 133, 3) := by decide +kernel
theorem dX9_action_146 : decode cX9_action 146 = .ok (.iconst 1, 1) := by decide +kernel
theorem dX9_action_147 : decode cX9_action 147 = .ok (.iadd, 1) := by decide +kernel
theorem dX9_action_148 : decode cX9_action 148 = .ok (.putfield 133, 3) := by decide +kernel
theorem dX9_action_151 : decode cX9_action 151 = .ok (.aload 5, 2) := by decide +kernel
theorem dX9_action_153 : decode cX9_action 153 = .ok (.getfield 133, 3) := by decide +kernel
theorem dX9_action_156 : decode cX9_action 156 = .ok (.ireturn, 1) := by decide +kernel
theorem dX9_transition_0 : decode cX9_transition 0 = .ok (.aload_n 0, 1) := by decide +kernel
theorem dX9_transition_1 : decode cX9_transition 1 = .ok (.getfield 16, 3) := by decide +kernel
theorem dX9_transition_4 : decode cX9_transition 4 = .ok (.iload_n 1, 1) := by decide +kernel
theorem dX9_transition_5 : decode cX9_transition 5 = .ok (.invokevirtual 138, 3) := by decide +kernel
theorem dX9_transition_8 : decode cX9_transition 8 = .ok (.ifCond .eq 37, 3) := by decide +kernel
theorem dX9_transition_11 : decode cX9_transition 11 = .ok (.aload_n 0, 1) := by decide +kernel
theorem dX9_transition_12 : decode cX9_transition 12 = .ok (.getfield 16, 3) := by decide +kernel
theorem dX9_transition_15 : decode cX9_transition 15 = .ok (.iload_n 2, 1) := by decide +kernel
theorem dX9_transition_16 : decode cX9_transition 16 = .ok (.invokevirtual 159, 3) := by decide +kernel
theorem dX9_transition_19 : decode cX9_transition 19 = .ok (.ifCond .eq 26, 3) := by decide +kernel
theorem dX9_transition_22 : decode cX9_transition 22 = .ok (.aload_n 0, 1) := by decide +kernel
theorem dX9_transition_23 : decode cX9_transition 23 = .ok (.getfield 16, 3) := by decide +kernel
theorem dX9_transition_26 : decode cX9_transition 26 = .ok (.iload_n 3, 1) := by decide +kernel
theorem dX9_transition_27 : decode cX9_transition 27 = .ok (.invokevirtual 138, 3) := by decide +kernel
theorem dX9_transition_30 : decode cX9_transition 30 = .ok (.ifCond .eq 15, 3) := by decide +kernel
theorem dX9_transition_33 : decode cX9_transition 33 = .ok (.aload_n 0, 1) := by decide +kernel
theorem dX9_transition_34 : decode cX9_transition 34 = .ok (.getfield 16, 3) := by decide +kernel
theorem dX9_transition_37 : decode cX9_transition 37 = .ok (.iload 4, 2) := by decide +kernel
theorem dX9_transition_39 : decode cX9_transition 39 = .ok (.invokevirtual 159, 3) := by decide +kernel
theorem dX9_transition_42 : decode cX9_transition 42 = .ok (.ifCond .ne 11, 3) := by decide +kernel
theorem dX9_transition_45 : decode cX9_transition 45 = .ok (.new 110, 3) := by decide +kernel
theorem dX9_transition_48 : decode cX9_transition 48 = .ok (.dup, 1) := by decide +kernel
theorem dX9_transition_49 : decode cX9_transition 49 = .ok (.invokespecial 112, 3) := by decide +kernel
theorem dX9_transition_52 : decode cX9_transition 52 = .ok (.athrow, 1) := by decide +kernel
theorem dX9_transition_53 : decode cX9_transition 53 = .ok (.iload 5, 2) := by decide +kernel
theorem dX9_transition_55 : decode cX9_transition 55 = .ok (.invokestatic 115, 3) := by decide +kernel
theorem dX9_transition_58 : decode cX9_transition 58 = .ok (.ifCond .eq 18, 3) := by decide +kernel
theorem dX9_transition_61 : decode cX9_transition 61 = .ok (.iload_n 1, 1) := by decide +kernel
theorem dX9_transition_62 : decode cX9_transition 62 = .ok (.iload_n 2, 1) := by decide +kernel
theorem dX9_transition_63 : decode cX9_transition 63 = .ok (.if_icmp .eq 13, 3) := by decide +kernel
theorem dX9_transition_66 : decode cX9_transition 66 = .ok (.iload_n 3, 1) := by decide +kernel
theorem dX9_transition_67 : decode cX9_transition 67 = .ok (.iload 4, 2) := by decide +kernel
theorem dX9_transition_69 : decode cX9_transition 69 = .ok (.if_icmp .eq 7, 3) := by decide +kernel
theorem dX9_transition_72 : decode cX9_transition 72 = .ok (.iconst 1, 1) := by decide +kernel
theorem dX9_transition_73 : decode cX9_transition 73 = .ok (.goto 4, 3) := by decide +kernel
theorem dX9_transition_76 : decode cX9_transition 76 = .ok (.iconst 0, 1) := by decide +kernel
theorem dX9_transition_77 : decode cX9_transition 77 = .ok (.invokestatic 68, 3) := by decide +kernel
theorem dX9_transition_80 : decode cX9_transition 80 = .ok (.aload_n 0, 1) := by decide +kernel
theorem dX9_transition_81 : decode cX9_transition 81 = .ok (.getfield 16, 3) := by decide +kernel
theorem dX9_transition_84 : decode cX9_transition 84 = .ok (.getfield 162, 3) := by decide +kernel
theorem dX9_transition_87 : decode cX9_transition 87 = .ok (.bipush 16, 2) := by decide +kernel
theorem dX9_transition_89 : decode cX9_transition 89 = .ok (.if_icmp .lt 11, 3) := by decide +kernel
theorem dX9_transition_92 : decode cX9_transition 92 = .ok (.new 82, 3) := by decide +kernel
theorem dX9_transition_95 : decode cX9_transition 95 = .ok (.dup, 1) := by decide +kernel
theorem dX9_transition_96 : decode cX9_transition 96 = .ok (.invokespecial 84, 3) := by decide +kernel
theorem dX9_transition_99 : decode cX9_transition 99 = .ok (.athrow, 1) := by decide +kernel
theorem dX9_transition_100 : decode cX9_transition 100 = .ok (.aload_n 0, 1) := by decide +kernel
theorem dX9_transition_101 : decode cX9_transition 101 = .ok (.getfield 16, 3) := by decide +kernel
theorem dX9_transition_104 : decode cX9_transition 104 = .ok (.getfield 165, 3) := by decide +kernel
theorem dX9_transition_107 : decode cX9_transition 107 = .ok (.aload_n 0, 1) := by decide +kernel
theorem dX9_transition_108 : decode cX9_transition 108 = .ok (.getfield 16, 3) := by decide +kernel
theorem dX9_transition_111 : decode cX9_transition 111 = .ok (.getfield 162, 3) := by decide +kernel
theorem dX9_transition_114 : decode cX9_transition 114 = .ok (.aaload, 1) := by decide +kernel
theorem dX9_transition_115 : decode cX9_transition 115 = .ok (.astore 7, 2) := by decide +kernel
theorem dX9_transition_117 : decode cX9_transition 117 = .ok (.aload 7, 2) := by decide +kernel
theorem dX9_transition_119 : decode cX9_transition 119 = .ok (.iload_n 1, 1) := by decide +kernel
theorem dX9_transition_120 : decode cX9_transition 120 = .ok (.invokestatic 169, 3) := by decide +kernel
theorem dX9_transition_123 : decode cX9_transition 123 = .ok (.iload_n 2, 1) := by decide +kernel
theorem dX9_transition_124 : decode cX9_transition 124 = .ok (.invokestatic 169, 3) := by decide +kernel
theorem dX9_transition_127 : decode cX9_transition 127 = .ok (.ior, 1) := by decide +kernel
theorem dX9_transition_128 : decode cX9_transition 128 = .ok (.putfield 172, 3) := by decide +kernel
theorem dX9_transition_131 : decode cX9_transition 131 = .ok (.aload 7, 2) := by decide +kernel
theorem dX9_transition_133 : decode cX9_transition 133 = .ok (.iload_n 3, 1) := by decide +kernel
theorem dX9_transition_134 : decode cX9_transition 134 = .ok (.invokestatic 169, 3) := by decide +kernel
theorem dX9_transition_137 : decode cX9_transition 137 = .ok (.iload 4, 2) := by decide +kernel
theorem dX9_transition_139 : decode cX9_transition 139 = .ok (.invokestatic 169, 3) := by decide +kernel
theorem dX9_transition_142 : decode cX9_transition 142 = .ok (.ior, 1) := by decide +kernel
theorem dX9_transition_143 : decode cX9_transition 143 = .ok (.putfield 177, 3) := by decide +kernel
theorem dX9_transition_146 : decode cX9_transition 146 = .ok (.aload 7, 2) := by decide +kernel
theorem dX9_transition_148 : decode cX9_transition 148 = .ok (.iload 5, 2) := by decide +kernel
theorem dX9_transition_150 : decode cX9_transition 150 = .ok (.putfield 180, 3) := by decide +kernel
theorem dX9_transition_153 : decode cX9_transition 153 = .ok (.aload 7, 2) := by decide +kernel
theorem dX9_transition_155 : decode cX9_transition 155 = .ok (.iload 6, 2) := by decide +kernel
theorem dX9_transition_157 : decode cX9_transition 157 = .ok (.putfield 183, 3) := by decide +kernel
theorem dX9_transition_160 : decode cX9_transition 160 = .ok (.aload_n 0, 1) := by decide +kernel
theorem dX9_transition_161 : decode cX9_transition 161 = .ok (.getfield 16, 3) := by decide +kernel
theorem dX9_transition_164 : decode cX9_transition 164 = .ok (.dup, 1) := by decide +kernel
theorem dX9_transition_165 : decode cX9_transition 165 = .ok (.getfield 162, 3) := by decide +kernel
theorem dX9_transition_168 : decode cX9_transition 168 = .ok (.iconst 1, 1) := by decide +kernel
theorem dX9_transition_169 : decode cX9_transition 169 = .ok (.iadd, 1) := by decide +kernel
theorem dX9_transition_170 : decode cX9_transition 170 = .ok (.putfield 162, 3) := by decide +kernel
theorem dX9_transition_173 : decode cX9_transition 173 = .ok (.aload_n 0, 1) := by decide +kernel
theorem dX9_transition_174 : decode cX9_transition 174 = .ok (.getfield 16, 3) := by decide +kernel
theorem dX9_transition_177 : decode cX9_transition 177 = .ok (.getfield 162, 3) := by decide +kernel
theorem dX9_transition_180 : decode cX9_transition 180 = .ok (.ireturn, 1) := by decide +kernel
theorem dX9_emptyDraft_0 : decode cX9_emptyDraft 0 = .ok (.aload_n 0, 1) := by decide +kernel
theorem dX9_emptyDraft_1 : decode cX9_emptyDraft 1 = .ok (.getfield 16, 3) := by decide +kernel
theorem dX9_emptyDraft_4 : decode cX9_emptyDraft 4 = .ok (.getfield 79, 3) := by decide +kernel
theorem dX9_emptyDraft_7 : decode cX9_emptyDraft 7 = .ok (.istore_n 1, 1) := by decide +kernel
theorem dX9_emptyDraft_8 : decode cX9_emptyDraft 8 = .ok (.aload_n 0, 1) := by decide +kernel
theorem dX9_emptyDraft_9 : decode cX9_emptyDraft 9 = .ok (.getfield 16, 3) := by decide +kernel
theorem dX9_emptyDraft_12 : decode cX9_emptyDraft 12 = .ok (.invokevirtual 187, 3) := by decide +kernel
theorem dX9_emptyDraft_15 : decode cX9_emptyDraft 15 = .ok (.iload_n 1, 1) := by decide +kernel
theorem dX9_emptyDraft_16 : decode cX9_emptyDraft 16 = .ok (.ireturn, 1) := by decide +kernel
theorem dX9_takeOver_0 : decode cX9_takeOver 0 = .ok (.aload_n 0, 1) := by decide +kernel
theorem dX9_takeOver_1 : decode cX9_takeOver 1 = .ok (.getfield 16, 3) := by decide +kernel
theorem dX9_takeOver_4 : decode cX9_takeOver 4 = .ok (.invokevirtual 190, 3) := by decide +kernel
theorem dX9_takeOver_7 : decode cX9_takeOver 7 = .ok (.istore_n 1, 1) := by decide +kernel
theorem dX9_takeOver_8 : decode cX9_takeOver 8 = .ok (.aload_n 0, 1) := by decide +kernel
theorem dX9_takeOver_9 : decode cX9_takeOver 9 = .ok (.getfield 10, 3) := by decide +kernel
theorem dX9_takeOver_12 : decode cX9_takeOver 12 = .ok (.getfield 126, 3) := by decide +kernel
theorem dX9_takeOver_15 : decode cX9_takeOver 15 = .ok (.ifCond .ne 7, 3) := by decide +kernel
theorem dX9_takeOver_18 : decode cX9_takeOver 18 = .ok (.iload_n 1, 1) := by decide +kernel
theorem dX9_takeOver_19 : decode cX9_takeOver 19 = .ok (.iconst 1, 1) := by decide +kernel
theorem dX9_takeOver_20 : decode cX9_takeOver 20 = .ok (.ior, 1) := by decide +kernel
theorem dX9_takeOver_21 : decode cX9_takeOver 21 = .ok (.istore_n 1, 1) := by decide +kernel
theorem dX9_takeOver_22 : decode cX9_takeOver 22 = .ok (.aload_n 0, 1) := by decide +kernel
theorem dX9_takeOver_23 : decode cX9_takeOver 23 = .ok (.getfield 22, 3) := by decide +kernel
theorem dX9_takeOver_26 : decode cX9_takeOver 26 = .ok (.getfield 194, 3) := by decide +kernel
theorem dX9_takeOver_29 : decode cX9_takeOver 29 = .ok (.iload_n 1, 1) := by decide +kernel
theorem dX9_takeOver_30 : decode cX9_takeOver 30 = .ok (.iconst (-1), 1) := by decide +kernel
theorem dX9_takeOver_31 : decode cX9_takeOver 31 = .ok (.ixor, 1) := by decide +kernel
theorem dX9_takeOver_32 : decode cX9_takeOver 32 = .ok (.iand, 1) := by decide +kernel
theorem dX9_takeOver_33 : decode cX9_takeOver 33 = .ok (.ifCond .eq 11, 3) := by decide +kernel
theorem dX9_takeOver_36 : decode cX9_takeOver 36 = .ok (.new 197, 3) := by decide +kernel
theorem dX9_takeOver_39 : decode cX9_takeOver 39 = .ok (.dup, 1) := by decide +kernel
theorem dX9_takeOver_40 : decode cX9_takeOver 40 = .ok (.invokespecial 199, 3) := by decide +kernel
theorem dX9_takeOver_43 : decode cX9_takeOver 43 = .ok (.athrow, 1) := by decide +kernel
theorem dX9_takeOver_44 : decode cX9_takeOver 44 = .ok (.aload_n 0, 1) := by decide +kernel
theorem dX9_takeOver_45 : decode cX9_takeOver 45 = .ok (.invokevirtual 200, 3) := by decide +kernel
theorem dX9_takeOver_48 : decode cX9_takeOver 48 = .ok (.aload_n 0, 1) := by decide +kernel
theorem dX9_takeOver_49 : decode cX9_takeOver 49 = .ok (.getfield 10, 3) := by decide +kernel
theorem dX9_takeOver_52 : decode cX9_takeOver 52 = .ok (.aload_n 0, 1) := by decide +kernel
theorem dX9_takeOver_53 : decode cX9_takeOver 53 = .ok (.getfield 16, 3) := by decide +kernel
theorem dX9_takeOver_56 : decode cX9_takeOver 56 = .ok (.invokevirtual 203, 3) := by decide +kernel
theorem dX9_takeOver_59 : decode cX9_takeOver 59 = .ok (.aload_n 0, 1) := by decide +kernel
theorem dX9_takeOver_60 : decode cX9_takeOver 60 = .ok (.getfield 32, 3) := by decide +kernel
theorem dX9_takeOver_63 : decode cX9_takeOver 63 = .ok (.aload_n 0, 1) := by decide +kernel
theorem dX9_takeOver_64 : decode cX9_takeOver 64 = .ok (.getfield 22, 3) := by decide +kernel
theorem dX9_takeOver_67 : decode cX9_takeOver 67 = .ok (.invokevirtual 207, 3) := by decide +kernel
theorem dX9_takeOver_70 : decode cX9_takeOver 70 = .ok (.aload_n 0, 1) := by decide +kernel
theorem dX9_takeOver_71 : decode cX9_takeOver 71 = .ok (.getfield 10, 3) := by decide +kernel
theorem dX9_takeOver_74 : decode cX9_takeOver 74 = .ok (.getfield 79, 3) := by decide +kernel
theorem dX9_takeOver_77 : decode cX9_takeOver 77 = .ok (.ireturn, 1) := by decide +kernel
theorem dX9_setInput_0 : decode cX9_setInput 0 = .ok (.iload_n 1, 1) := by decide +kernel
theorem dX9_setInput_1 : decode cX9_setInput 1 = .ok (.invokestatic 211, 3) := by decide +kernel
theorem dX9_setInput_4 : decode cX9_setInput 4 = .ok (.invokestatic 68, 3) := by decide +kernel
theorem dX9_setInput_7 : decode cX9_setInput 7 = .ok (.aload_n 0, 1) := by decide +kernel
theorem dX9_setInput_8 : decode cX9_setInput 8 = .ok (.getfield 39, 3) := by decide +kernel
theorem dX9_setInput_11 : decode cX9_setInput 11 = .ok (.getfield 214, 3) := by decide +kernel
theorem dX9_setInput_14 : decode cX9_setInput 14 = .ok (.iload_n 1, 1) := by decide +kernel
theorem dX9_setInput_15 : decode cX9_setInput 15 = .ok (.invokestatic 217, 3) := by decide +kernel
theorem dX9_setInput_18 : decode cX9_setInput 18 = .ok (.istore_n 3, 1) := by decide +kernel
theorem dX9_setInput_19 : decode cX9_setInput 19 = .ok (.aload_n 0, 1) := by decide +kernel
theorem dX9_setInput_20 : decode cX9_setInput 20 = .ok (.getfield 39, 3) := by decide +kernel
theorem dX9_setInput_23 : decode cX9_setInput 23 = .ok (.iload_n 2, 1) := by decide +kernel
theorem dX9_setInput_24 : decode cX9_setInput 24 = .ok (.ifCond .eq 18, 3) := by decide +kernel
theorem dX9_setInput_27 : decode cX9_setInput 27 = .ok (.aload_n 0, 1) := by decide +kernel
theorem dX9_setInput_28 : decode cX9_setInput 28 = .ok (.getfield 39, 3) := by decide +kernel
theorem dX9_setInput_31 : decode cX9_setInput 31 = .ok (.getfield 214, 3) := by decide +kernel
theorem dX9_setInput_34 : decode cX9_setInput 34 = .ok (.iload_n 1, 1) := by decide +kernel
theorem dX9_setInput_35 : decode cX9_setInput 35 = .ok (.invokestatic 169, 3) := by decide +kernel
theorem dX9_setInput_38 : decode cX9_setInput 38 = .ok (.ior, 1) := by decide +kernel
theorem dX9_setInput_39 : decode cX9_setInput 39 = .ok (.goto 17, 3) := by decide +kernel
theorem dX9_setInput_42 : decode cX9_setInput 42 = .ok (.aload_n 0, 1) := by decide +kernel
theorem dX9_setInput_43 : decode cX9_setInput 43 = .ok (.getfield 39, 3) := by decide +kernel
theorem dX9_setInput_46 : decode cX9_setInput 46 = .ok (.getfield 214, 3) := by decide +kernel
theorem dX9_setInput_49 : decode cX9_setInput 49 = .ok (.iload_n 1, 1) := by decide +kernel
theorem dX9_setInput_50 : decode cX9_setInput 50 = .ok (.invokestatic 169, 3) := by decide +kernel
theorem dX9_setInput_53 : decode cX9_setInput 53 = .ok (.iconst (-1), 1) := by decide +kernel
theorem dX9_setInput_54 : decode cX9_setInput 54 = .ok (.ixor, 1) := by decide +kernel
theorem dX9_setInput_55 : decode cX9_setInput 55 = .ok (.iand, 1) := by decide +kernel
theorem dX9_setInput_56 : decode cX9_setInput 56 = .ok (.putfield 214, 3) := by decide +kernel
theorem dX9_setInput_59 : decode cX9_setInput 59 = .ok (.iload_n 3, 1) := by decide +kernel
theorem dX9_setInput_60 : decode cX9_setInput 60 = .ok (.ireturn, 1) := by decide +kernel
theorem dX9_force_0 : decode cX9_force 0 = .ok (.iload_n 1, 1) := by decide +kernel
theorem dX9_force_1 : decode cX9_force 1 = .ok (.invokestatic 115, 3) := by decide +kernel
theorem dX9_force_4 : decode cX9_force 4 = .ok (.ifCond .eq 16, 3) := by decide +kernel
theorem dX9_force_7 : decode cX9_force 7 = .ok (.iload_n 2, 1) := by decide +kernel
theorem dX9_force_8 : decode cX9_force 8 = .ok (.iconst (-1), 1) := by decide +kernel
theorem dX9_force_9 : decode cX9_force 9 = .ok (.iconst 1, 1) := by decide +kernel
theorem dX9_force_10 : decode cX9_force 10 = .ok (.invokestatic 146, 3) := by decide +kernel
theorem dX9_force_13 : decode cX9_force 13 = .ok (.ifCond .eq 7, 3) := by decide +kernel
theorem dX9_force_16 : decode cX9_force 16 = .ok (.iconst 1, 1) := by decide +kernel
theorem dX9_force_17 : decode cX9_force 17 = .ok (.goto 4, 3) := by decide +kernel
theorem dX9_force_20 : decode cX9_force 20 = .ok (.iconst 0, 1) := by decide +kernel
theorem dX9_force_21 : decode cX9_force 21 = .ok (.invokestatic 68, 3) := by decide +kernel
theorem dX9_force_24 : decode cX9_force 24 = .ok (.iload_n 1, 1) := by decide +kernel
theorem dX9_force_25 : decode cX9_force 25 = .ok (.invokestatic 169, 3) := by decide +kernel
theorem dX9_force_28 : decode cX9_force 28 = .ok (.istore_n 3, 1) := by decide +kernel
theorem dX9_force_29 : decode cX9_force 29 = .ok (.iconst (-1), 1) := by decide +kernel
theorem dX9_force_30 : decode cX9_force 30 = .ok (.istore 4, 2) := by decide +kernel
theorem dX9_force_32 : decode cX9_force 32 = .ok (.aload_n 0, 1) := by decide +kernel
theorem dX9_force_33 : decode cX9_force 33 = .ok (.getfield 221, 3) := by decide +kernel
theorem dX9_force_36 : decode cX9_force 36 = .ok (.iload_n 1, 1) := by decide +kernel
theorem dX9_force_37 : decode cX9_force 37 = .ok (.invokestatic 217, 3) := by decide +kernel
theorem dX9_force_40 : decode cX9_force 40 = .ok (.ifCond .eq 21, 3) := by decide +kernel
theorem dX9_force_43 : decode cX9_force 43 = .ok (.aload_n 0, 1) := by decide +kernel
theorem dX9_force_44 : decode cX9_force 44 = .ok (.getfield 224, 3) := by decide +kernel
theorem dX9_force_47 : decode cX9_force 47 = .ok (.iload_n 1, 1) := by decide +kernel
theorem dX9_force_48 : decode cX9_force 48 = .ok (.invokestatic 217, 3) := by decide +kernel
theorem dX9_force_51 : decode cX9_force 51 = .ok (.ifCond .eq 7, 3) := by decide +kernel
theorem dX9_force_54 : decode cX9_force 54 = .ok (.iconst 1, 1) := by decide +kernel
theorem dX9_force_55 : decode cX9_force 55 = .ok (.goto 4, 3) := by decide +kernel
theorem dX9_force_58 : decode cX9_force 58 = .ok (.iconst 0, 1) := by decide +kernel
theorem dX9_force_59 : decode cX9_force 59 = .ok (.istore 4, 2) := by decide +kernel
theorem dX9_force_61 : decode cX9_force 61 = .ok (.aload_n 0, 1) := by decide +kernel
theorem dX9_force_62 : decode cX9_force 62 = .ok (.iload_n 2, 1) := by decide +kernel
theorem dX9_force_63 : decode cX9_force 63 = .ok (.iconst (-1), 1) := by decide +kernel
theorem dX9_force_64 : decode cX9_force 64 = .ok (.if_icmp .ne 14, 3) := by decide +kernel
theorem dX9_force_67 : decode cX9_force 67 = .ok (.aload_n 0, 1) := by decide +kernel
theorem dX9_force_68 : decode cX9_force 68 = .ok (.getfield 221, 3) := by decide +kernel
theorem dX9_force_71 : decode cX9_force 71 = .ok (.iload_n 3, 1) := by decide +kernel
theorem dX9_force_72 : decode cX9_force 72 = .ok (.iconst (-1), 1) := by decide +kernel
theorem dX9_force_73 : decode cX9_force 73 = .ok (.ixor, 1) := by decide +kernel
theorem dX9_force_74 : decode cX9_force 74 = .ok (.iand, 1) := by decide +kernel
theorem dX9_force_75 : decode cX9_force 75 = .ok (.goto 9, 3) := by decide +kernel
theorem dX9_force_78 : decode cX9_force 78 = .ok (.aload_n 0, 1) := by decide +kernel
theorem dX9_force_79 : decode cX9_force 79 = .ok (.getfield 221, 3) := by decide +kernel
theorem dX9_force_82 : decode cX9_force 82 = .ok (.iload_n 3, 1) := by decide +kernel
theorem dX9_force_83 : decode cX9_force 83 = .ok (.ior, 1) := by decide +kernel
theorem dX9_force_84 : decode cX9_force 84 = .ok (.putfield 221, 3) := by decide +kernel
theorem dX9_force_87 : decode cX9_force 87 = .ok (.aload_n 0, 1) := by decide +kernel
theorem dX9_force_88 : decode cX9_force 88 = .ok (.iload_n 2, 1) := by decide +kernel
theorem dX9_force_89 : decode cX9_force 89 = .ok (.iconst 1, 1) := by decide +kernel
theorem dX9_force_90 : decode cX9_force 90 = .ok (.if_icmp .ne 12, 3) := by decide +kernel
theorem dX9_force_93 : decode cX9_force 93 = .ok (.aload_n 0, 1) := by decide +kernel
theorem dX9_force_94 : decode cX9_force 94 = .ok (.getfield 224, 3) := by decide +kernel
theorem dX9_force_97 : decode cX9_force 97 = .ok (.iload_n 3, 1) := by decide +kernel
theorem dX9_force_98 : decode cX9_force 98 = .ok (.ior, 1) := by decide +kernel
theorem dX9_force_99 : decode cX9_force 99 = .ok (.goto 11, 3) := by decide +kernel
theorem dX9_force_102 : decode cX9_force 102 = .ok (.aload_n 0, 1) := by decide +kernel
theorem dX9_force_103 : decode cX9_force 103 = .ok (.getfield 224, 3) := by decide +kernel
theorem dX9_force_106 : decode cX9_force 106 = .ok (.iload_n 3, 1) := by decide +kernel
theorem dX9_force_107 : decode cX9_force 107 = .ok (.iconst (-1), 1) := by decide +kernel
theorem dX9_force_108 : decode cX9_force 108 = .ok (.ixor, 1) := by decide +kernel
theorem dX9_force_109 : decode cX9_force 109 = .ok (.iand, 1) := by decide +kernel
theorem dX9_force_110 : decode cX9_force 110 = .ok (.putfield 224, 3) := by decide +kernel
theorem dX9_force_113 : decode cX9_force 113 = .ok (.iload 4, 2) := by decide +kernel
theorem dX9_force_115 : decode cX9_force 115 = .ok (.ireturn, 1) := by decide +kernel
theorem dX9_setPeriod_0 : decode cX9_setPeriod 0 = .ok (.iload_n 1, 1) := by decide +kernel
theorem dX9_setPeriod_1 : decode cX9_setPeriod 1 = .ok (.invokestatic 56, 3) := by decide +kernel
theorem dX9_setPeriod_4 : decode cX9_setPeriod 4 = .ok (.ifCond .eq 17, 3) := by decide +kernel
theorem dX9_setPeriod_7 : decode cX9_setPeriod 7 = .ok (.iload_n 2, 1) := by decide +kernel
theorem dX9_setPeriod_8 : decode cX9_setPeriod 8 = .ok (.iconst 0, 1) := by decide +kernel
theorem dX9_setPeriod_9 : decode cX9_setPeriod 9 = .ok (.bipush 100, 2) := by decide +kernel
theorem dX9_setPeriod_11 : decode cX9_setPeriod 11 = .ok (.invokestatic 146, 3) := by decide +kernel
theorem dX9_setPeriod_14 : decode cX9_setPeriod 14 = .ok (.ifCond .eq 7, 3) := by decide +kernel
theorem dX9_setPeriod_17 : decode cX9_setPeriod 17 = .ok (.iconst 1, 1) := by decide +kernel
theorem dX9_setPeriod_18 : decode cX9_setPeriod 18 = .ok (.goto 4, 3) := by decide +kernel
theorem dX9_setPeriod_21 : decode cX9_setPeriod 21 = .ok (.iconst 0, 1) := by decide +kernel
theorem dX9_setPeriod_22 : decode cX9_setPeriod 22 = .ok (.invokestatic 68, 3) := by decide +kernel
theorem dX9_setPeriod_25 : decode cX9_setPeriod 25 = .ok (.aload_n 0, 1) := by decide +kernel
theorem dX9_setPeriod_26 : decode cX9_setPeriod 26 = .ok (.getfield 48, 3) := by decide +kernel
theorem dX9_setPeriod_29 : decode cX9_setPeriod 29 = .ok (.iload_n 1, 1) := by decide +kernel
theorem dX9_setPeriod_30 : decode cX9_setPeriod 30 = .ok (.aaload, 1) := by decide +kernel
theorem dX9_setPeriod_31 : decode cX9_setPeriod 31 = .ok (.getfield 227, 3) := by decide +kernel
theorem dX9_setPeriod_34 : decode cX9_setPeriod 34 = .ok (.istore_n 3, 1) := by decide +kernel
theorem dX9_setPeriod_35 : decode cX9_setPeriod 35 = .ok (.aload_n 0, 1) := by decide +kernel
theorem dX9_setPeriod_36 : decode cX9_setPeriod 36 = .ok (.getfield 48, 3) := by decide +kernel
theorem dX9_setPeriod_39 : decode cX9_setPeriod 39 = .ok (.iload_n 1, 1) := by decide +kernel
theorem dX9_setPeriod_40 : decode cX9_setPeriod 40 = .ok (.aaload, 1) := by decide +kernel
theorem dX9_setPeriod_41 : decode cX9_setPeriod 41 = .ok (.iload_n 2, 1) := by decide +kernel
theorem dX9_setPeriod_42 : decode cX9_setPeriod 42 = .ok (.putfield 227, 3) := by decide +kernel
theorem dX9_setPeriod_45 : decode cX9_setPeriod 45 = .ok (.iload_n 3, 1) := by decide +kernel
theorem dX9_setPeriod_46 : decode cX9_setPeriod 46 = .ok (.ireturn, 1) := by decide +kernel
theorem dX9_setStart_0 : decode cX9_setStart 0 = .ok (.iload_n 1, 1) := by decide +kernel
theorem dX9_setStart_1 : decode cX9_setStart 1 = .ok (.iconst (-1), 1) := by decide +kernel
theorem dX9_setStart_2 : decode cX9_setStart 2 = .ok (.if_icmp .eq 10, 3) := by decide +kernel
theorem dX9_setStart_5 : decode cX9_setStart 5 = .ok (.iload_n 1, 1) := by decide +kernel
theorem dX9_setStart_6 : decode cX9_setStart 6 = .ok (.invokestatic 115, 3) := by decide +kernel
theorem dX9_setStart_9 : decode cX9_setStart 9 = .ok (.ifCond .eq 7, 3) := by decide +kernel
theorem dX9_setStart_12 : decode cX9_setStart 12 = .ok (.iconst 1, 1) := by decide +kernel
theorem dX9_setStart_13 : decode cX9_setStart 13 = .ok (.goto 4, 3) := by decide +kernel
theorem dX9_setStart_16 : decode cX9_setStart 16 = .ok (.iconst 0, 1) := by decide +kernel
theorem dX9_setStart_17 : decode cX9_setStart 17 = .ok (.invokestatic 68, 3) := by decide +kernel
theorem dX9_setStart_20 : decode cX9_setStart 20 = .ok (.aload_n 0, 1) := by decide +kernel
theorem dX9_setStart_21 : decode cX9_setStart 21 = .ok (.getfield 52, 3) := by decide +kernel
theorem dX9_setStart_24 : decode cX9_setStart 24 = .ok (.istore_n 2, 1) := by decide +kernel
theorem dX9_setStart_25 : decode cX9_setStart 25 = .ok (.aload_n 0, 1) := by decide +kernel
theorem dX9_setStart_26 : decode cX9_setStart 26 = .ok (.iload_n 1, 1) := by decide +kernel
theorem dX9_setStart_27 : decode cX9_setStart 27 = .ok (.putfield 52, 3) := by decide +kernel
theorem dX9_setStart_30 : decode cX9_setStart 30 = .ok (.aload_n 0, 1) := by decide +kernel
theorem dX9_setStart_31 : decode cX9_setStart 31 = .ok (.iconst 0, 1) := by decide +kernel
theorem dX9_setStart_32 : decode cX9_setStart 32 = .ok (.putfield 230, 3) := by decide +kernel
theorem dX9_setStart_35 : decode cX9_setStart 35 = .ok (.iload_n 2, 1) := by decide +kernel
theorem dX9_setStart_36 : decode cX9_setStart 36 = .ok (.ireturn, 1) := by decide +kernel
theorem dX9_setWatch_0 : decode cX9_setWatch 0 = .ok (.iload_n 1, 1) := by decide +kernel
theorem dX9_setWatch_1 : decode cX9_setWatch 1 = .ok (.invokestatic 56, 3) := by decide +kernel
theorem dX9_setWatch_4 : decode cX9_setWatch 4 = .ok (.ifCond .eq 17, 3) := by decide +kernel
theorem dX9_setWatch_7 : decode cX9_setWatch 7 = .ok (.iload_n 2, 1) := by decide +kernel
theorem dX9_setWatch_8 : decode cX9_setWatch 8 = .ok (.iconst 1, 1) := by decide +kernel
theorem dX9_setWatch_9 : decode cX9_setWatch 9 = .ok (.bipush 40, 2) := by decide +kernel
theorem dX9_setWatch_11 : decode cX9_setWatch 11 = .ok (.invokestatic 146, 3) := by decide +kernel
theorem dX9_setWatch_14 : decode cX9_setWatch 14 = .ok (.ifCond .eq 7, 3) := by decide +kernel
theorem dX9_setWatch_17 : decode cX9_setWatch 17 = .ok (.iconst 1, 1) := by decide +kernel
theorem dX9_setWatch_18 : decode cX9_setWatch 18 = .ok (.goto 4, 3) := by decide +kernel
theorem dX9_setWatch_21 : decode cX9_setWatch 21 = .ok (.iconst 0, 1) := by decide +kernel
theorem dX9_setWatch_22 : decode cX9_setWatch 22 = .ok (.invokestatic 68, 3) := by decide +kernel
theorem dX9_setWatch_25 : decode cX9_setWatch 25 = .ok (.aload_n 0, 1) := by decide +kernel
theorem dX9_setWatch_26 : decode cX9_setWatch 26 = .ok (.getfield 48, 3) := by decide +kernel
theorem dX9_setWatch_29 : decode cX9_setWatch 29 = .ok (.iload_n 1, 1) := by decide +kernel
theorem dX9_setWatch_30 : decode cX9_setWatch 30 = .ok (.aaload, 1) := by decide +kernel
theorem dX9_setWatch_31 : decode cX9_setWatch 31 = .ok (.getfield 233, 3) := by decide +kernel
theorem dX9_setWatch_34 : decode cX9_setWatch 34 = .ok (.istore_n 3, 1) := by decide +kernel
theorem dX9_setWatch_35 : decode cX9_setWatch 35 = .ok (.aload_n 0, 1) := by decide +kernel
theorem dX9_setWatch_36 : decode cX9_setWatch 36 = .ok (.getfield 48, 3) := by decide +kernel
theorem dX9_setWatch_39 : decode cX9_setWatch 39 = .ok (.iload_n 1, 1) := by decide +kernel
theorem dX9_setWatch_40 : decode cX9_setWatch 40 = .ok (.aaload, 1) := by decide +kernel
theorem dX9_setWatch_41 : decode cX9_setWatch 41 = .ok (.iload_n 2, 1) := by decide +kernel
theorem dX9_setWatch_42 : decode cX9_setWatch 42 = .ok (.putfield 233, 3) := by decide +kernel
theorem dX9_setWatch_45 : decode cX9_setWatch 45 = .ok (.iload_n 3, 1) := by decide +kernel
theorem dX9_setWatch_46 : decode cX9_setWatch 46 = .ok (.ireturn, 1) := by decide +kernel
theorem dX9_lose_0 : decode cX9_lose 0 = .ok (.iload_n 1, 1) := by decide +kernel
theorem dX9_lose_1 : decode cX9_lose 1 = .ok (.iconst 1, 1) := by decide +kernel
theorem dX9_lose_2 : decode cX9_lose 2 = .ok (.bipush 20, 2) := by decide +kernel
theorem dX9_lose_4 : decode cX9_lose 4 = .ok (.invokestatic 146, 3) := by decide +kernel
theorem dX9_lose_7 : decode cX9_lose 7 = .ok (.invokestatic 68, 3) := by decide +kernel
theorem dX9_lose_10 : decode cX9_lose 10 = .ok (.aload_n 0, 1) := by decide +kernel
theorem dX9_lose_11 : decode cX9_lose 11 = .ok (.getfield 39, 3) := by decide +kernel
theorem dX9_lose_14 : decode cX9_lose 14 = .ok (.getfield 236, 3) := by decide +kernel
theorem dX9_lose_17 : decode cX9_lose 17 = .ok (.istore_n 2, 1) := by decide +kernel
theorem dX9_lose_18 : decode cX9_lose 18 = .ok (.aload_n 0, 1) := by decide +kernel
theorem dX9_lose_19 : decode cX9_lose 19 = .ok (.getfield 39, 3) := by decide +kernel
theorem dX9_lose_22 : decode cX9_lose 22 = .ok (.iload_n 1, 1) := by decide +kernel
theorem dX9_lose_23 : decode cX9_lose 23 = .ok (.putfield 236, 3) := by decide +kernel
theorem dX9_lose_26 : decode cX9_lose 26 = .ok (.iload_n 2, 1) := by decide +kernel
theorem dX9_lose_27 : decode cX9_lose 27 = .ok (.ireturn, 1) := by decide +kernel
theorem dX9_setHold_0 : decode cX9_setHold 0 = .ok (.iload_n 1, 1) := by decide +kernel
theorem dX9_setHold_1 : decode cX9_setHold 1 = .ok (.iconst 0, 1) := by decide +kernel
theorem dX9_setHold_2 : decode cX9_setHold 2 = .ok (.bipush 9, 2) := by decide +kernel
theorem dX9_setHold_4 : decode cX9_setHold 4 = .ok (.invokestatic 146, 3) := by decide +kernel
theorem dX9_setHold_7 : decode cX9_setHold 7 = .ok (.invokestatic 68, 3) := by decide +kernel
theorem dX9_setHold_10 : decode cX9_setHold 10 = .ok (.aload_n 0, 1) := by decide +kernel
theorem dX9_setHold_11 : decode cX9_setHold 11 = .ok (.getfield 39, 3) := by decide +kernel
theorem dX9_setHold_14 : decode cX9_setHold 14 = .ok (.getfield 239, 3) := by decide +kernel
theorem dX9_setHold_17 : decode cX9_setHold 17 = .ok (.istore_n 2, 1) := by decide +kernel
theorem dX9_setHold_18 : decode cX9_setHold 18 = .ok (.aload_n 0, 1) := by decide +kernel
theorem dX9_setHold_19 : decode cX9_setHold 19 = .ok (.getfield 39, 3) := by decide +kernel
theorem dX9_setHold_22 : decode cX9_setHold 22 = .ok (.iload_n 1, 1) := by decide +kernel
theorem dX9_setHold_23 : decode cX9_setHold 23 = .ok (.putfield 239, 3) := by decide +kernel
theorem dX9_setHold_26 : decode cX9_setHold 26 = .ok (.iload_n 2, 1) := by decide +kernel
theorem dX9_setHold_27 : decode cX9_setHold 27 = .ok (.ireturn, 1) := by decide +kernel
theorem dX9_pass_0 : decode cX9_pass 0 = .ok (.iload_n 1, 1) := by decide +kernel
theorem dX9_pass_1 : decode cX9_pass 1 = .ok (.iconst 1, 1) := by decide +kernel
theorem dX9_pass_2 : decode cX9_pass 2 = .ok (.sipush 200, 3) := by decide +kernel
theorem dX9_pass_5 : decode cX9_pass 5 = .ok (.invokestatic 146, 3) := by decide +kernel
theorem dX9_pass_8 : decode cX9_pass 8 = .ok (.invokestatic 68, 3) := by decide +kernel
theorem dX9_pass_11 : decode cX9_pass 11 = .ok (.aload_n 0, 1) := by decide +kernel
theorem dX9_pass_12 : decode cX9_pass 12 = .ok (.getfield 242, 3) := by decide +kernel
theorem dX9_pass_15 : decode cX9_pass 15 = .ok (.iload_n 1, 1) := by decide +kernel
theorem dX9_pass_16 : decode cX9_pass 16 = .ok (.iadd, 1) := by decide +kernel
theorem dX9_pass_17 : decode cX9_pass 17 = .ok (.ldc 245, 2) := by decide +kernel
theorem dX9_pass_19 : decode cX9_pass 19 = .ok (.if_icmp .le 11, 3) := by decide +kernel
theorem dX9_pass_22 : decode cX9_pass 22 = .ok (.new 82, 3) := by decide +kernel
theorem dX9_pass_25 : decode cX9_pass 25 = .ok (.dup, 1) := by decide +kernel
theorem dX9_pass_26 : decode cX9_pass 26 = .ok (.invokespecial 84, 3) := by decide +kernel
theorem dX9_pass_29 : decode cX9_pass 29 = .ok (.athrow, 1) := by decide +kernel
theorem dX9_pass_30 : decode cX9_pass 30 = .ok (.iconst 0, 1) := by decide +kernel
theorem dX9_pass_31 : decode cX9_pass 31 = .ok (.istore_n 2, 1) := by decide +kernel
theorem dX9_pass_32 : decode cX9_pass 32 = .ok (.iload_n 2, 1) := by decide +kernel
theorem dX9_pass_33 : decode cX9_pass 33 = .ok (.iload_n 1, 1) := by decide +kernel
theorem dX9_pass_34 : decode cX9_pass 34 = .ok (.if_icmp .ge 13, 3) := by decide +kernel
theorem dX9_pass_37 : decode cX9_pass 37 = .ok (.aload_n 0, 1) := by decide +kernel
theorem dX9_pass_38 : decode cX9_pass 38 = .ok (.invokevirtual 246, 3) := by decide +kernel
theorem dX9_pass_41 : decode cX9_pass 41 = .ok (.iinc 2 1, 3) := by decide +kernel
theorem dX9_pass_44 : decode cX9_pass 44 = .ok (.goto (-12), 3) := by decide +kernel
theorem dX9_pass_47 : decode cX9_pass 47 = .ok (.aload_n 0, 1) := by decide +kernel
theorem dX9_pass_48 : decode cX9_pass 48 = .ok (.getfield 242, 3) := by decide +kernel
theorem dX9_pass_51 : decode cX9_pass 51 = .ok (.ireturn, 1) := by decide +kernel
theorem dX9_acknowledge_0 : decode cX9_acknowledge 0 = .ok (.iload_n 1, 1) := by decide +kernel
theorem dX9_acknowledge_1 : decode cX9_acknowledge 1 = .ok (.invokestatic 211, 3) := by decide +kernel
theorem dX9_acknowledge_4 : decode cX9_acknowledge 4 = .ok (.invokestatic 68, 3) := by decide +kernel
theorem dX9_acknowledge_7 : decode cX9_acknowledge 7 = .ok (.aload_n 0, 1) := by decide +kernel
theorem dX9_acknowledge_8 : decode cX9_acknowledge 8 = .ok (.getfield 22, 3) := by decide +kernel
theorem dX9_acknowledge_11 : decode cX9_acknowledge 11 = .ok (.getfield 249, 3) := by decide +kernel
theorem dX9_acknowledge_14 : decode cX9_acknowledge 14 = .ok (.iload_n 1, 1) := by decide +kernel
theorem dX9_acknowledge_15 : decode cX9_acknowledge 15 = .ok (.invokevirtual 253, 3) := by decide +kernel
theorem dX9_acknowledge_18 : decode cX9_acknowledge 18 = .ok (.ifCond .le 7, 3) := by decide +kernel
theorem dX9_acknowledge_21 : decode cX9_acknowledge 21 = .ok (.iconst 1, 1) := by decide +kernel
theorem dX9_acknowledge_22 : decode cX9_acknowledge 22 = .ok (.goto 4, 3) := by decide +kernel
theorem dX9_acknowledge_25 : decode cX9_acknowledge 25 = .ok (.iconst 0, 1) := by decide +kernel
theorem dX9_acknowledge_26 : decode cX9_acknowledge 26 = .ok (.istore_n 2, 1) := by decide +kernel
theorem dX9_acknowledge_27 : decode cX9_acknowledge 27 = .ok (.iload_n 2, 1) := by decide +kernel
theorem dX9_acknowledge_28 : decode cX9_acknowledge 28 = .ok (.ifCond .eq 14, 3) := by decide +kernel
theorem dX9_acknowledge_31 : decode cX9_acknowledge 31 = .ok (.aload_n 0, 1) := by decide +kernel
theorem dX9_acknowledge_32 : decode cX9_acknowledge 32 = .ok (.getfield 22, 3) := by decide +kernel
theorem dX9_acknowledge_35 : decode cX9_acknowledge 35 = .ok (.getfield 249, 3) := by decide +kernel
theorem dX9_acknowledge_38 : decode cX9_acknowledge 38 = .ok (.iload_n 1, 1) := by decide +kernel
theorem dX9_acknowledge_39 : decode cX9_acknowledge 39 = .ok (.invokevirtual 258, 3) := by decide +kernel
theorem dX9_acknowledge_42 : decode cX9_acknowledge 42 = .ok (.iload_n 2, 1) := by decide +kernel
theorem dX9_acknowledge_43 : decode cX9_acknowledge 43 = .ok (.ireturn, 1) := by decide +kernel
theorem dX9_shelve_0 : decode cX9_shelve 0 = .ok (.iload_n 1, 1) := by decide +kernel
theorem dX9_shelve_1 : decode cX9_shelve 1 = .ok (.invokestatic 211, 3) := by decide +kernel
theorem dX9_shelve_4 : decode cX9_shelve 4 = .ok (.ifCond .eq 18, 3) := by decide +kernel
theorem dX9_shelve_7 : decode cX9_shelve 7 = .ok (.iload_n 2, 1) := by decide +kernel
theorem dX9_shelve_8 : decode cX9_shelve 8 = .ok (.iconst 0, 1) := by decide +kernel
theorem dX9_shelve_9 : decode cX9_shelve 9 = .ok (.sipush 999, 3) := by decide +kernel
theorem dX9_shelve_12 : decode cX9_shelve 12 = .ok (.invokestatic 146, 3) := by decide +kernel
theorem dX9_shelve_15 : decode cX9_shelve 15 = .ok (.ifCond .eq 7, 3) := by decide +kernel
theorem dX9_shelve_18 : decode cX9_shelve 18 = .ok (.iconst 1, 1) := by decide +kernel
theorem dX9_shelve_19 : decode cX9_shelve 19 = .ok (.goto 4, 3) := by decide +kernel
theorem dX9_shelve_22 : decode cX9_shelve 22 = .ok (.iconst 0, 1) := by decide +kernel
theorem dX9_shelve_23 : decode cX9_shelve 23 = .ok (.invokestatic 68, 3) := by decide +kernel
theorem dX9_shelve_26 : decode cX9_shelve 26 = .ok (.aload_n 0, 1) := by decide +kernel
theorem dX9_shelve_27 : decode cX9_shelve 27 = .ok (.getfield 22, 3) := by decide +kernel
theorem dX9_shelve_30 : decode cX9_shelve 30 = .ok (.getfield 249, 3) := by decide +kernel
theorem dX9_shelve_33 : decode cX9_shelve 33 = .ok (.getfield 261, 3) := by decide +kernel
theorem dX9_shelve_36 : decode cX9_shelve 36 = .ok (.iload_n 1, 1) := by decide +kernel
theorem dX9_shelve_37 : decode cX9_shelve 37 = .ok (.iaload, 1) := by decide +kernel
theorem dX9_shelve_38 : decode cX9_shelve 38 = .ok (.istore_n 3, 1) := by decide +kernel
theorem dX9_shelve_39 : decode cX9_shelve 39 = .ok (.aload_n 0, 1) := by decide +kernel
theorem dX9_shelve_40 : decode cX9_shelve 40 = .ok (.getfield 22, 3) := by decide +kernel
theorem dX9_shelve_43 : decode cX9_shelve 43 = .ok (.getfield 249, 3) := by decide +kernel
theorem dX9_shelve_46 : decode cX9_shelve 46 = .ok (.iload_n 1, 1) := by decide +kernel
theorem dX9_shelve_47 : decode cX9_shelve 47 = .ok (.iload_n 2, 1) := by decide +kernel
theorem dX9_shelve_48 : decode cX9_shelve 48 = .ok (.invokevirtual 264, 3) := by decide +kernel
theorem dX9_shelve_51 : decode cX9_shelve 51 = .ok (.iload_n 3, 1) := by decide +kernel
theorem dX9_shelve_52 : decode cX9_shelve 52 = .ok (.ireturn, 1) := by decide +kernel
theorem dX9_fail_0 : decode cX9_fail 0 = .ok (.aload_n 0, 1) := by decide +kernel
theorem dX9_fail_1 : decode cX9_fail 1 = .ok (.getfield 32, 3) := by decide +kernel
theorem dX9_fail_4 : decode cX9_fail 4 = .ok (.getfield 268, 3) := by decide +kernel
theorem dX9_fail_7 : decode cX9_fail 7 = .ok (.ifCond .eq 17, 3) := by decide +kernel
theorem dX9_fail_10 : decode cX9_fail 10 = .ok (.aload_n 0, 1) := by decide +kernel
theorem dX9_fail_11 : decode cX9_fail 11 = .ok (.getfield 32, 3) := by decide +kernel
theorem dX9_fail_14 : decode cX9_fail 14 = .ok (.getfield 271, 3) := by decide +kernel
theorem dX9_fail_17 : decode cX9_fail 17 = .ok (.ifCond .eq 7, 3) := by decide +kernel
theorem dX9_fail_20 : decode cX9_fail 20 = .ok (.iconst 1, 1) := by decide +kernel
theorem dX9_fail_21 : decode cX9_fail 21 = .ok (.goto 4, 3) := by decide +kernel
theorem dX9_fail_24 : decode cX9_fail 24 = .ok (.iconst 0, 1) := by decide +kernel
theorem dX9_fail_25 : decode cX9_fail 25 = .ok (.istore_n 1, 1) := by decide +kernel
theorem dX9_fail_26 : decode cX9_fail 26 = .ok (.iload_n 1, 1) := by decide +kernel
theorem dX9_fail_27 : decode cX9_fail 27 = .ok (.ifCond .eq 28, 3) := by decide +kernel
theorem dX9_fail_30 : decode cX9_fail 30 = .ok (.aload_n 0, 1) := by decide +kernel
theorem dX9_fail_31 : decode cX9_fail 31 = .ok (.getfield 22, 3) := by decide +kernel
theorem dX9_fail_34 : decode cX9_fail 34 = .ok (.aload_n 0, 1) := by decide +kernel
theorem dX9_fail_35 : decode cX9_fail 35 = .ok (.getfield 32, 3) := by decide +kernel
theorem dX9_fail_38 : decode cX9_fail 38 = .ok (.getfield 274, 3) := by decide +kernel
theorem dX9_fail_41 : decode cX9_fail 41 = .ok (.invokevirtual 277, 3) := by decide +kernel
theorem dX9_fail_44 : decode cX9_fail 44 = .ok (.aload_n 0, 1) := by decide +kernel
theorem dX9_fail_45 : decode cX9_fail 45 = .ok (.getfield 32, 3) := by decide +kernel
theorem dX9_fail_48 : decode cX9_fail 48 = .ok (.iconst 1, 1) := by decide +kernel
theorem dX9_fail_49 : decode cX9_fail 49 = .ok (.putfield 279, 3) := by decide +kernel
theorem dX9_fail_52 : decode cX9_fail 52 = .ok (.goto 7, 3) := by decide +kernel
theorem dX9_fail_55 : decode cX9_fail 55 = .ok (.aload_n 0, 1) := by decide +kernel
theorem dX9_fail_56 : decode cX9_fail 56 = .ok (.invokevirtual 282, 3) := by decide +kernel
theorem dX9_fail_59 : decode cX9_fail 59 = .ok (.aload_n 0, 1) := by decide +kernel
theorem dX9_fail_60 : decode cX9_fail 60 = .ok (.getfield 32, 3) := by decide +kernel
theorem dX9_fail_63 : decode cX9_fail 63 = .ok (.iconst 0, 1) := by decide +kernel
theorem dX9_fail_64 : decode cX9_fail 64 = .ok (.putfield 268, 3) := by decide +kernel
theorem dX9_fail_67 : decode cX9_fail 67 = .ok (.aload_n 0, 1) := by decide +kernel
theorem dX9_fail_68 : decode cX9_fail 68 = .ok (.getfield 32, 3) := by decide +kernel
theorem dX9_fail_71 : decode cX9_fail 71 = .ok (.iconst 0, 1) := by decide +kernel
theorem dX9_fail_72 : decode cX9_fail 72 = .ok (.putfield 285, 3) := by decide +kernel
theorem dX9_fail_75 : decode cX9_fail 75 = .ok (.iload_n 1, 1) := by decide +kernel
theorem dX9_fail_76 : decode cX9_fail 76 = .ok (.ireturn, 1) := by decide +kernel
theorem dX9_come_0 : decode cX9_come 0 = .ok (.aload_n 0, 1) := by decide +kernel
theorem dX9_come_1 : decode cX9_come 1 = .ok (.getfield 32, 3) := by decide +kernel
theorem dX9_come_4 : decode cX9_come 4 = .ok (.getfield 268, 3) := by decide +kernel
theorem dX9_come_7 : decode cX9_come 7 = .ok (.ifCond .ne 13, 3) := by decide +kernel
theorem dX9_come_10 : decode cX9_come 10 = .ok (.aload_n 0, 1) := by decide +kernel
theorem dX9_come_11 : decode cX9_come 11 = .ok (.getfield 32, 3) := by decide +kernel
theorem dX9_come_14 : decode cX9_come 14 = .ok (.getfield 285, 3) := by decide +kernel
theorem dX9_come_17 : decode cX9_come 17 = .ok (.ifCond .eq 5, 3) := by decide +kernel
theorem dX9_come_20 : decode cX9_come 20 = .ok (.iconst 0, 1) := by decide +kernel
theorem dX9_come_21 : decode cX9_come 21 = .ok (.ireturn, 1) := by decide +kernel
theorem dX9_come_22 : decode cX9_come 22 = .ok (.aload_n 0, 1) := by decide +kernel
theorem dX9_come_23 : decode cX9_come 23 = .ok (.getfield 32, 3) := by decide +kernel
theorem dX9_come_26 : decode cX9_come 26 = .ok (.iconst 1, 1) := by decide +kernel
theorem dX9_come_27 : decode cX9_come 27 = .ok (.putfield 285, 3) := by decide +kernel
theorem dX9_come_30 : decode cX9_come 30 = .ok (.iconst 1, 1) := by decide +kernel
theorem dX9_come_31 : decode cX9_come 31 = .ok (.ireturn, 1) := by decide +kernel
theorem dX9_reset_0 : decode cX9_reset 0 = .ok (.aload_n 0, 1) := by decide +kernel
theorem dX9_reset_1 : decode cX9_reset 1 = .ok (.getfield 22, 3) := by decide +kernel
theorem dX9_reset_4 : decode cX9_reset 4 = .ok (.aload_n 0, 1) := by decide +kernel
theorem dX9_reset_5 : decode cX9_reset 5 = .ok (.getfield 242, 3) := by decide +kernel
theorem dX9_reset_8 : decode cX9_reset 8 = .ok (.invokevirtual 288, 3) := by decide +kernel
theorem dX9_reset_11 : decode cX9_reset 11 = .ok (.aload_n 0, 1) := by decide +kernel
theorem dX9_reset_12 : decode cX9_reset 12 = .ok (.getfield 32, 3) := by decide +kernel
theorem dX9_reset_15 : decode cX9_reset 15 = .ok (.invokevirtual 290, 3) := by decide +kernel
theorem dX9_reset_18 : decode cX9_reset 18 = .ok (.aload_n 0, 1) := by decide +kernel
theorem dX9_reset_19 : decode cX9_reset 19 = .ok (.iconst 0, 1) := by decide +kernel
theorem dX9_reset_20 : decode cX9_reset 20 = .ok (.putfield 291, 3) := by decide +kernel
theorem dX9_reset_23 : decode cX9_reset 23 = .ok (.aload_n 0, 1) := by decide +kernel
theorem dX9_reset_24 : decode cX9_reset 24 = .ok (.getfield 39, 3) := by decide +kernel
theorem dX9_reset_27 : decode cX9_reset 27 = .ok (.invokevirtual 294, 3) := by decide +kernel
theorem dX9_reset_30 : decode cX9_reset 30 = .ok (.aload_n 0, 1) := by decide +kernel
theorem dX9_reset_31 : decode cX9_reset 31 = .ok (.getfield 39, 3) := by decide +kernel
theorem dX9_reset_34 : decode cX9_reset 34 = .ok (.aload_n 0, 1) := by decide +kernel
theorem dX9_reset_35 : decode cX9_reset 35 = .ok (.getfield 224, 3) := by decide +kernel
theorem dX9_reset_38 : decode cX9_reset 38 = .ok (.invokestatic 297, 3) := by decide +kernel
theorem dX9_reset_41 : decode cX9_reset 41 = .ok (.invokevirtual 300, 3) := by decide +kernel
theorem dX9_reset_44 : decode cX9_reset 44 = .ok (.aload_n 0, 1) := by decide +kernel
theorem dX9_reset_45 : decode cX9_reset 45 = .ok (.getfield 242, 3) := by decide +kernel
theorem dX9_reset_48 : decode cX9_reset 48 = .ok (.ireturn, 1) := by decide +kernel
theorem dX9_bit_0 : decode cX9_bit 0 = .ok (.iload_n 1, 1) := by decide +kernel
theorem dX9_bit_1 : decode cX9_bit 1 = .ok (.invokestatic 115, 3) := by decide +kernel
theorem dX9_bit_4 : decode cX9_bit 4 = .ok (.invokestatic 68, 3) := by decide +kernel
theorem dX9_bit_7 : decode cX9_bit 7 = .ok (.aload_n 0, 1) := by decide +kernel
theorem dX9_bit_8 : decode cX9_bit 8 = .ok (.invokevirtual 303, 3) := by decide +kernel
theorem dX9_bit_11 : decode cX9_bit 11 = .ok (.iload_n 1, 1) := by decide +kernel
theorem dX9_bit_12 : decode cX9_bit 12 = .ok (.invokestatic 217, 3) := by decide +kernel
theorem dX9_bit_15 : decode cX9_bit 15 = .ok (.ifCond .eq 7, 3) := by decide +kernel
theorem dX9_bit_18 : decode cX9_bit 18 = .ok (.iconst 1, 1) := by decide +kernel
theorem dX9_bit_19 : decode cX9_bit 19 = .ok (.goto 4, 3) := by decide +kernel
theorem dX9_bit_22 : decode cX9_bit 22 = .ok (.iconst 0, 1) := by decide +kernel
theorem dX9_bit_23 : decode cX9_bit 23 = .ok (.ireturn, 1) := by decide +kernel
theorem dX9_given_0 : decode cX9_given 0 = .ok (.iload_n 1, 1) := by decide +kernel
theorem dX9_given_1 : decode cX9_given 1 = .ok (.invokestatic 211, 3) := by decide +kernel
theorem dX9_given_4 : decode cX9_given 4 = .ok (.invokestatic 68, 3) := by decide +kernel
theorem dX9_given_7 : decode cX9_given 7 = .ok (.aload_n 0, 1) := by decide +kernel
theorem dX9_given_8 : decode cX9_given 8 = .ok (.getfield 39, 3) := by decide +kernel
theorem dX9_given_11 : decode cX9_given 11 = .ok (.getfield 306, 3) := by decide +kernel
theorem dX9_given_14 : decode cX9_given 14 = .ok (.iload_n 1, 1) := by decide +kernel
theorem dX9_given_15 : decode cX9_given 15 = .ok (.invokestatic 217, 3) := by decide +kernel
theorem dX9_given_18 : decode cX9_given 18 = .ok (.ifCond .eq 7, 3) := by decide +kernel
theorem dX9_given_21 : decode cX9_given 21 = .ok (.iconst 1, 1) := by decide +kernel
theorem dX9_given_22 : decode cX9_given 22 = .ok (.goto 4, 3) := by decide +kernel
theorem dX9_given_25 : decode cX9_given 25 = .ok (.iconst 0, 1) := by decide +kernel
theorem dX9_given_26 : decode cX9_given 26 = .ok (.ireturn, 1) := by decide +kernel
theorem dX9_number_0 : decode cX9_number 0 = .ok (.iload_n 1, 1) := by decide +kernel
theorem dX9_number_1 : decode cX9_number 1 = .ok (.invokestatic 211, 3) := by decide +kernel
theorem dX9_number_4 : decode cX9_number 4 = .ok (.invokestatic 68, 3) := by decide +kernel
theorem dX9_number_7 : decode cX9_number 7 = .ok (.aload_n 0, 1) := by decide +kernel
theorem dX9_number_8 : decode cX9_number 8 = .ok (.getfield 22, 3) := by decide +kernel
theorem dX9_number_11 : decode cX9_number 11 = .ok (.getfield 309, 3) := by decide +kernel
theorem dX9_number_14 : decode cX9_number 14 = .ok (.iload_n 1, 1) := by decide +kernel
theorem dX9_number_15 : decode cX9_number 15 = .ok (.iaload, 1) := by decide +kernel
theorem dX9_number_16 : decode cX9_number 16 = .ok (.ireturn, 1) := by decide +kernel
theorem dX9_timer_0 : decode cX9_timer 0 = .ok (.iload_n 1, 1) := by decide +kernel
theorem dX9_timer_1 : decode cX9_timer 1 = .ok (.invokestatic 211, 3) := by decide +kernel
theorem dX9_timer_4 : decode cX9_timer 4 = .ok (.invokestatic 68, 3) := by decide +kernel
theorem dX9_timer_7 : decode cX9_timer 7 = .ok (.aload_n 0, 1) := by decide +kernel
theorem dX9_timer_8 : decode cX9_timer 8 = .ok (.getfield 22, 3) := by decide +kernel
theorem dX9_timer_11 : decode cX9_timer 11 = .ok (.getfield 312, 3) := by decide +kernel
theorem dX9_timer_14 : decode cX9_timer 14 = .ok (.iload_n 1, 1) := by decide +kernel
theorem dX9_timer_15 : decode cX9_timer 15 = .ok (.iaload, 1) := by decide +kernel
theorem dX9_timer_16 : decode cX9_timer 16 = .ok (.ireturn, 1) := by decide +kernel
theorem dX9_isActive_0 : decode cX9_isActive 0 = .ok (.iload_n 1, 1) := by decide +kernel
theorem dX9_isActive_1 : decode cX9_isActive 1 = .ok (.invokestatic 315, 3) := by decide +kernel
theorem dX9_isActive_4 : decode cX9_isActive 4 = .ok (.invokestatic 68, 3) := by decide +kernel
theorem dX9_isActive_7 : decode cX9_isActive 7 = .ok (.aload_n 0, 1) := by decide +kernel
theorem dX9_isActive_8 : decode cX9_isActive 8 = .ok (.getfield 22, 3) := by decide +kernel
theorem dX9_isActive_11 : decode cX9_isActive 11 = .ok (.getfield 194, 3) := by decide +kernel
theorem dX9_isActive_14 : decode cX9_isActive 14 = .ok (.iload_n 1, 1) := by decide +kernel
theorem dX9_isActive_15 : decode cX9_isActive 15 = .ok (.invokestatic 217, 3) := by decide +kernel
theorem dX9_isActive_18 : decode cX9_isActive 18 = .ok (.ireturn, 1) := by decide +kernel
theorem dX9_stepTime_0 : decode cX9_stepTime 0 = .ok (.iload_n 1, 1) := by decide +kernel
theorem dX9_stepTime_1 : decode cX9_stepTime 1 = .ok (.invokestatic 315, 3) := by decide +kernel
theorem dX9_stepTime_4 : decode cX9_stepTime 4 = .ok (.invokestatic 68, 3) := by decide +kernel
theorem dX9_stepTime_7 : decode cX9_stepTime 7 = .ok (.aload_n 0, 1) := by decide +kernel
theorem dX9_stepTime_8 : decode cX9_stepTime 8 = .ok (.getfield 22, 3) := by decide +kernel
theorem dX9_stepTime_11 : decode cX9_stepTime 11 = .ok (.getfield 194, 3) := by decide +kernel
theorem dX9_stepTime_14 : decode cX9_stepTime 14 = .ok (.iload_n 1, 1) := by decide +kernel
theorem dX9_stepTime_15 : decode cX9_stepTime 15 = .ok (.invokestatic 217, 3) := by decide +kernel
theorem dX9_stepTime_18 : decode cX9_stepTime 18 = .ok (.ifCond .ne 11, 3) := by decide +kernel
theorem dX9_stepTime_21 : decode cX9_stepTime 21 = .ok (.new 110, 3) := by decide +kernel
theorem dX9_stepTime_24 : decode cX9_stepTime 24 = .ok (.dup, 1) := by decide +kernel
theorem dX9_stepTime_25 : decode cX9_stepTime 25 = .ok (.invokespecial 112, 3) := by decide +kernel
theorem dX9_stepTime_28 : decode cX9_stepTime 28 = .ok (.athrow, 1) := by decide +kernel
theorem dX9_stepTime_29 : decode cX9_stepTime 29 = .ok (.aload_n 0, 1) := by decide +kernel
theorem dX9_stepTime_30 : decode cX9_stepTime 30 = .ok (.getfield 22, 3) := by decide +kernel
theorem dX9_stepTime_33 : decode cX9_stepTime 33 = .ok (.getfield 318, 3) := by decide +kernel
theorem dX9_stepTime_36 : decode cX9_stepTime 36 = .ok (.iload_n 1, 1) := by decide +kernel
theorem dX9_stepTime_37 : decode cX9_stepTime 37 = .ok (.iaload, 1) := by decide +kernel
theorem dX9_stepTime_38 : decode cX9_stepTime 38 = .ok (.ireturn, 1) := by decide +kernel
theorem dX9_alarm_0 : decode cX9_alarm 0 = .ok (.iload_n 1, 1) := by decide +kernel
theorem dX9_alarm_1 : decode cX9_alarm 1 = .ok (.invokestatic 211, 3) := by decide +kernel
theorem dX9_alarm_4 : decode cX9_alarm 4 = .ok (.invokestatic 68, 3) := by decide +kernel
theorem dX9_alarm_7 : decode cX9_alarm 7 = .ok (.aload_n 0, 1) := by decide +kernel
theorem dX9_alarm_8 : decode cX9_alarm 8 = .ok (.getfield 22, 3) := by decide +kernel
theorem dX9_alarm_11 : decode cX9_alarm 11 = .ok (.getfield 249, 3) := by decide +kernel
theorem dX9_alarm_14 : decode cX9_alarm 14 = .ok (.iload_n 1, 1) := by decide +kernel
theorem dX9_alarm_15 : decode cX9_alarm 15 = .ok (.invokevirtual 321, 3) := by decide +kernel
theorem dX9_alarm_18 : decode cX9_alarm 18 = .ok (.ireturn, 1) := by decide +kernel
theorem dX9_alarms_0 : decode cX9_alarms 0 = .ok (.aload_n 0, 1) := by decide +kernel
theorem dX9_alarms_1 : decode cX9_alarms 1 = .ok (.getfield 22, 3) := by decide +kernel
theorem dX9_alarms_4 : decode cX9_alarms 4 = .ok (.getfield 249, 3) := by decide +kernel
theorem dX9_alarms_7 : decode cX9_alarms 7 = .ok (.getfield 325, 3) := by decide +kernel
theorem dX9_alarms_10 : decode cX9_alarms 10 = .ok (.ireturn, 1) := by decide +kernel
theorem dX9_alarmAt_0 : decode cX9_alarmAt 0 = .ok (.iload_n 1, 1) := by decide +kernel
theorem dX9_alarmAt_1 : decode cX9_alarmAt 1 = .ok (.ifCond .lt 17, 3) := by decide +kernel
theorem dX9_alarmAt_4 : decode cX9_alarmAt 4 = .ok (.iload_n 1, 1) := by decide +kernel
theorem dX9_alarmAt_5 : decode cX9_alarmAt 5 = .ok (.aload_n 0, 1) := by decide +kernel
theorem dX9_alarmAt_6 : decode cX9_alarmAt 6 = .ok (.getfield 22, 3) := by decide +kernel
theorem dX9_alarmAt_9 : decode cX9_alarmAt 9 = .ok (.getfield 249, 3) := by decide +kernel
theorem dX9_alarmAt_12 : decode cX9_alarmAt 12 = .ok (.getfield 325, 3) := by decide +kernel
theorem dX9_alarmAt_15 : decode cX9_alarmAt 15 = .ok (.if_icmp .lt 11, 3) := by decide +kernel
theorem dX9_alarmAt_18 : decode cX9_alarmAt 18 = .ok (.new 328, 3) := by decide +kernel
theorem dX9_alarmAt_21 : decode cX9_alarmAt 21 = .ok (.dup, 1) := by decide +kernel
theorem dX9_alarmAt_22 : decode cX9_alarmAt 22 = .ok (.invokespecial 330, 3) := by decide +kernel
theorem dX9_alarmAt_25 : decode cX9_alarmAt 25 = .ok (.athrow, 1) := by decide +kernel
theorem dX9_alarmAt_26 : decode cX9_alarmAt 26 = .ok (.aload_n 0, 1) := by decide +kernel
theorem dX9_alarmAt_27 : decode cX9_alarmAt 27 = .ok (.getfield 22, 3) := by decide +kernel
theorem dX9_alarmAt_30 : decode cX9_alarmAt 30 = .ok (.getfield 249, 3) := by decide +kernel
theorem dX9_alarmAt_33 : decode cX9_alarmAt 33 = .ok (.getfield 331, 3) := by decide +kernel
theorem dX9_alarmAt_36 : decode cX9_alarmAt 36 = .ok (.iload_n 1, 1) := by decide +kernel
theorem dX9_alarmAt_37 : decode cX9_alarmAt 37 = .ok (.iaload, 1) := by decide +kernel
theorem dX9_alarmAt_38 : decode cX9_alarmAt 38 = .ok (.ireturn, 1) := by decide +kernel
theorem dX9_time_0 : decode cX9_time 0 = .ok (.aload_n 0, 1) := by decide +kernel
theorem dX9_time_1 : decode cX9_time 1 = .ok (.getfield 242, 3) := by decide +kernel
theorem dX9_time_4 : decode cX9_time 4 = .ok (.ireturn, 1) := by decide +kernel
theorem dX9_scans_0 : decode cX9_scans 0 = .ok (.iload_n 1, 1) := by decide +kernel
theorem dX9_scans_1 : decode cX9_scans 1 = .ok (.invokestatic 56, 3) := by decide +kernel
theorem dX9_scans_4 : decode cX9_scans 4 = .ok (.invokestatic 68, 3) := by decide +kernel
theorem dX9_scans_7 : decode cX9_scans 7 = .ok (.aload_n 0, 1) := by decide +kernel
theorem dX9_scans_8 : decode cX9_scans 8 = .ok (.getfield 48, 3) := by decide +kernel
theorem dX9_scans_11 : decode cX9_scans 11 = .ok (.iload_n 1, 1) := by decide +kernel
theorem dX9_scans_12 : decode cX9_scans 12 = .ok (.aaload, 1) := by decide +kernel
theorem dX9_scans_13 : decode cX9_scans 13 = .ok (.getfield 334, 3) := by decide +kernel
theorem dX9_scans_16 : decode cX9_scans 16 = .ok (.ireturn, 1) := by decide +kernel
theorem dX9_missed_0 : decode cX9_missed 0 = .ok (.iload_n 1, 1) := by decide +kernel
theorem dX9_missed_1 : decode cX9_missed 1 = .ok (.invokestatic 56, 3) := by decide +kernel
theorem dX9_missed_4 : decode cX9_missed 4 = .ok (.invokestatic 68, 3) := by decide +kernel
theorem dX9_missed_7 : decode cX9_missed 7 = .ok (.aload_n 0, 1) := by decide +kernel
theorem dX9_missed_8 : decode cX9_missed 8 = .ok (.getfield 48, 3) := by decide +kernel
theorem dX9_missed_11 : decode cX9_missed 11 = .ok (.iload_n 1, 1) := by decide +kernel
theorem dX9_missed_12 : decode cX9_missed 12 = .ok (.aaload, 1) := by decide +kernel
theorem dX9_missed_13 : decode cX9_missed 13 = .ok (.getfield 337, 3) := by decide +kernel
theorem dX9_missed_16 : decode cX9_missed 16 = .ok (.ireturn, 1) := by decide +kernel
theorem dX9_isStopped_0 : decode cX9_isStopped 0 = .ok (.aload_n 0, 1) := by decide +kernel
theorem dX9_isStopped_1 : decode cX9_isStopped 1 = .ok (.getfield 291, 3) := by decide +kernel
theorem dX9_isStopped_4 : decode cX9_isStopped 4 = .ok (.ireturn, 1) := by decide +kernel
theorem dX9_isInStep_0 : decode cX9_isInStep 0 = .ok (.aload_n 0, 1) := by decide +kernel
theorem dX9_isInStep_1 : decode cX9_isInStep 1 = .ok (.getfield 32, 3) := by decide +kernel
theorem dX9_isInStep_4 : decode cX9_isInStep 4 = .ok (.getfield 268, 3) := by decide +kernel
theorem dX9_isInStep_7 : decode cX9_isInStep 7 = .ok (.ireturn, 1) := by decide +kernel
theorem dX9_rungs_0 : decode cX9_rungs 0 = .ok (.aload_n 0, 1) := by decide +kernel
theorem dX9_rungs_1 : decode cX9_rungs 1 = .ok (.getfield 10, 3) := by decide +kernel
theorem dX9_rungs_4 : decode cX9_rungs 4 = .ok (.getfield 79, 3) := by decide +kernel
theorem dX9_rungs_7 : decode cX9_rungs 7 = .ok (.ireturn, 1) := by decide +kernel
theorem dX9_changes_0 : decode cX9_changes 0 = .ok (.iload_n 1, 1) := by decide +kernel
theorem dX9_changes_1 : decode cX9_changes 1 = .ok (.invokestatic 211, 3) := by decide +kernel
theorem dX9_changes_4 : decode cX9_changes 4 = .ok (.invokestatic 68, 3) := by decide +kernel
theorem dX9_changes_7 : decode cX9_changes 7 = .ok (.aload_n 0, 1) := by decide +kernel
theorem dX9_changes_8 : decode cX9_changes 8 = .ok (.getfield 39, 3) := by decide +kernel
theorem dX9_changes_11 : decode cX9_changes 11 = .ok (.getfield 345, 3) := by decide +kernel
theorem dX9_changes_14 : decode cX9_changes 14 = .ok (.iload_n 1, 1) := by decide +kernel
theorem dX9_changes_15 : decode cX9_changes 15 = .ok (.iaload, 1) := by decide +kernel
theorem dX9_changes_16 : decode cX9_changes 16 = .ok (.ireturn, 1) := by decide +kernel
theorem dX9_done_0 : decode cX9_done 0 = .ok (.aload_n 0, 1) := by decide +kernel
theorem dX9_done_1 : decode cX9_done 1 = .ok (.getfield 348, 3) := by decide +kernel
theorem dX9_done_4 : decode cX9_done 4 = .ok (.lreturn, 1) := by decide +kernel
theorem dX9_isSound_0 : decode cX9_isSound 0 = .ok (.aload_n 0, 1) := by decide +kernel
theorem dX9_isSound_1 : decode cX9_isSound 1 = .ok (.getfield 10, 3) := by decide +kernel
theorem dX9_isSound_4 : decode cX9_isSound 4 = .ok (.invokevirtual 190, 3) := by decide +kernel
theorem dX9_isSound_7 : decode cX9_isSound 7 = .ok (.iconst 1, 1) := by decide +kernel
theorem dX9_isSound_8 : decode cX9_isSound 8 = .ok (.ior, 1) := by decide +kernel
theorem dX9_isSound_9 : decode cX9_isSound 9 = .ok (.istore_n 1, 1) := by decide +kernel
theorem dX9_isSound_10 : decode cX9_isSound 10 = .ok (.aload_n 0, 1) := by decide +kernel
theorem dX9_isSound_11 : decode cX9_isSound 11 = .ok (.getfield 22, 3) := by decide +kernel
theorem dX9_isSound_14 : decode cX9_isSound 14 = .ok (.getfield 249, 3) := by decide +kernel
theorem dX9_isSound_17 : decode cX9_isSound 17 = .ok (.invokevirtual 355, 3) := by decide +kernel
theorem dX9_isSound_20 : decode cX9_isSound 20 = .ok (.ifCond .eq 21, 3) := by decide +kernel
theorem dX9_isSound_23 : decode cX9_isSound 23 = .ok (.aload_n 0, 1) := by decide +kernel
theorem dX9_isSound_24 : decode cX9_isSound 24 = .ok (.getfield 22, 3) := by decide +kernel
theorem dX9_isSound_27 : decode cX9_isSound 27 = .ok (.getfield 194, 3) := by decide +kernel
theorem dX9_isSound_30 : decode cX9_isSound 30 = .ok (.iload_n 1, 1) := by decide +kernel
theorem dX9_isSound_31 : decode cX9_isSound 31 = .ok (.iconst (-1), 1) := by decide +kernel
theorem dX9_isSound_32 : decode cX9_isSound 32 = .ok (.ixor, 1) := by decide +kernel
theorem dX9_isSound_33 : decode cX9_isSound 33 = .ok (.iand, 1) := by decide +kernel
theorem dX9_isSound_34 : decode cX9_isSound 34 = .ok (.ifCond .ne 7, 3) := by decide +kernel
theorem dX9_isSound_37 : decode cX9_isSound 37 = .ok (.iconst 1, 1) := by decide +kernel
theorem dX9_isSound_38 : decode cX9_isSound 38 = .ok (.goto 4, 3) := by decide +kernel
theorem dX9_isSound_41 : decode cX9_isSound 41 = .ok (.iconst 0, 1) := by decide +kernel
theorem dX9_isSound_42 : decode cX9_isSound 42 = .ok (.ireturn, 1) := by decide +kernel
theorem dX9_require_0 : decode cX9_require 0 = .ok (.iload_n 0, 1) := by decide +kernel
theorem dX9_require_1 : decode cX9_require 1 = .ok (.ifCond .ne 11, 3) := by decide +kernel
theorem dX9_require_4 : decode cX9_require 4 = .ok (.new 359, 3) := by decide +kernel
theorem dX9_require_7 : decode cX9_require 7 = .ok (.dup, 1) := by decide +kernel
theorem dX9_require_8 : decode cX9_require 8 = .ok (.invokespecial 361, 3) := by decide +kernel
theorem dX9_require_11 : decode cX9_require 11 = .ok (.athrow, 1) := by decide +kernel
theorem dX9_require_12 : decode cX9_require 12 = .ok (.return_, 1) := by decide +kernel
theorem dX9_isBetween_0 : decode cX9_isBetween 0 = .ok (.iload_n 0, 1) := by decide +kernel
theorem dX9_isBetween_1 : decode cX9_isBetween 1 = .ok (.iload_n 1, 1) := by decide +kernel
theorem dX9_isBetween_2 : decode cX9_isBetween 2 = .ok (.if_icmp .lt 12, 3) := by decide +kernel
theorem dX9_isBetween_5 : decode cX9_isBetween 5 = .ok (.iload_n 0, 1) := by decide +kernel
theorem dX9_isBetween_6 : decode cX9_isBetween 6 = .ok (.iload_n 2, 1) := by decide +kernel
theorem dX9_isBetween_7 : decode cX9_isBetween 7 = .ok (.if_icmp .gt 7, 3) := by decide +kernel
theorem dX9_isBetween_10 : decode cX9_isBetween 10 = .ok (.iconst 1, 1) := by decide +kernel
theorem dX9_isBetween_11 : decode cX9_isBetween 11 = .ok (.goto 4, 3) := by decide +kernel
theorem dX9_isBetween_14 : decode cX9_isBetween 14 = .ok (.iconst 0, 1) := by decide +kernel
theorem dX9_isBetween_15 : decode cX9_isBetween 15 = .ok (.ireturn, 1) := by decide +kernel
theorem dX9_isTask_0 : decode cX9_isTask 0 = .ok (.iload_n 0, 1) := by decide +kernel
theorem dX9_isTask_1 : decode cX9_isTask 1 = .ok (.iconst 0, 1) := by decide +kernel
theorem dX9_isTask_2 : decode cX9_isTask 2 = .ok (.iconst 1, 1) := by decide +kernel
theorem dX9_isTask_3 : decode cX9_isTask 3 = .ok (.invokestatic 146, 3) := by decide +kernel
theorem dX9_isTask_6 : decode cX9_isTask 6 = .ok (.ireturn, 1) := by decide +kernel
theorem dX9_isOfEight_0 : decode cX9_isOfEight 0 = .ok (.iload_n 0, 1) := by decide +kernel
theorem dX9_isOfEight_1 : decode cX9_isOfEight 1 = .ok (.iconst 0, 1) := by decide +kernel
theorem dX9_isOfEight_2 : decode cX9_isOfEight 2 = .ok (.bipush 7, 2) := by decide +kernel
theorem dX9_isOfEight_4 : decode cX9_isOfEight 4 = .ok (.invokestatic 146, 3) := by decide +kernel
theorem dX9_isOfEight_7 : decode cX9_isOfEight 7 = .ok (.ireturn, 1) := by decide +kernel
theorem dX9_isBit_0 : decode cX9_isBit 0 = .ok (.iload_n 0, 1) := by decide +kernel
theorem dX9_isBit_1 : decode cX9_isBit 1 = .ok (.iconst 0, 1) := by decide +kernel
theorem dX9_isBit_2 : decode cX9_isBit 2 = .ok (.bipush 31, 2) := by decide +kernel
theorem dX9_isBit_4 : decode cX9_isBit 4 = .ok (.invokestatic 146, 3) := by decide +kernel
theorem dX9_isBit_7 : decode cX9_isBit 7 = .ok (.ireturn, 1) := by decide +kernel
theorem dX9_isWritable_0 : decode cX9_isWritable 0 = .ok (.iload_n 0, 1) := by decide +kernel
theorem dX9_isWritable_1 : decode cX9_isWritable 1 = .ok (.bipush 8, 2) := by decide +kernel
theorem dX9_isWritable_3 : decode cX9_isWritable 3 = .ok (.bipush 31, 2) := by decide +kernel
theorem dX9_isWritable_5 : decode cX9_isWritable 5 = .ok (.invokestatic 146, 3) := by decide +kernel
theorem dX9_isWritable_8 : decode cX9_isWritable 8 = .ok (.ireturn, 1) := by decide +kernel
theorem dX9_isStep_0 : decode cX9_isStep 0 = .ok (.iload_n 0, 1) := by decide +kernel
theorem dX9_isStep_1 : decode cX9_isStep 1 = .ok (.iconst 0, 1) := by decide +kernel
theorem dX9_isStep_2 : decode cX9_isStep 2 = .ok (.bipush 11, 2) := by decide +kernel
theorem dX9_isStep_4 : decode cX9_isStep 4 = .ok (.invokestatic 146, 3) := by decide +kernel
theorem dX9_isStep_7 : decode cX9_isStep 7 = .ok (.ireturn, 1) := by decide +kernel
theorem dX9_isFirstNumber_0 : decode cX9_isFirstNumber 0 = .ok (.iload_n 0, 1) := by decide +kernel
theorem dX9_isFirstNumber_1 : decode cX9_isFirstNumber 1 = .ok (.lookupswitch 58 #[(60, 51), (61, 51), (74, 56), (114, 51), (115, 51)], 51) := by decide +kernel
theorem dX9_isFirstNumber_52 : decode cX9_isFirstNumber 52 = .ok (.iload_n 1, 1) := by decide +kernel
theorem dX9_isFirstNumber_53 : decode cX9_isFirstNumber 53 = .ok (.invokestatic 143, 3) := by decide +kernel
theorem dX9_isFirstNumber_56 : decode cX9_isFirstNumber 56 = .ok (.ireturn, 1) := by decide +kernel
theorem dX9_isFirstNumber_57 : decode cX9_isFirstNumber 57 = .ok (.iconst 1, 1) := by decide +kernel
theorem dX9_isFirstNumber_58 : decode cX9_isFirstNumber 58 = .ok (.ireturn, 1) := by decide +kernel
theorem dX9_isFirstNumber_59 : decode cX9_isFirstNumber 59 = .ok (.iload_n 1, 1) := by decide +kernel
theorem dX9_isFirstNumber_60 : decode cX9_isFirstNumber 60 = .ok (.invokestatic 211, 3) := by decide +kernel
theorem dX9_isFirstNumber_63 : decode cX9_isFirstNumber 63 = .ok (.ireturn, 1) := by decide +kernel
theorem dX9_isSecondNumber_0 : decode cX9_isSecondNumber 0 = .ok (.iload_n 0, 1) := by decide +kernel
theorem dX9_isSecondNumber_1 : decode cX9_isSecondNumber 1 = .ok (.lookupswitch 100 #[(43, 87), (60, 87), (67, 67), (74, 92), (82, 67), (84, 67), (107, 76)], 67) := by decide +kernel
theorem dX9_isSecondNumber_68 : decode cX9_isSecondNumber 68 = .ok (.iload_n 1, 1) := by decide +kernel
theorem dX9_isSecondNumber_69 : decode cX9_isSecondNumber 69 = .ok (.iconst 1, 1) := by decide +kernel
theorem dX9_isSecondNumber_70 : decode cX9_isSecondNumber 70 = .ok (.sipush 999, 3) := by decide +kernel
theorem dX9_isSecondNumber_73 : decode cX9_isSecondNumber 73 = .ok (.invokestatic 146, 3) := by decide +kernel
theorem dX9_isSecondNumber_76 : decode cX9_isSecondNumber 76 = .ok (.ireturn, 1) := by decide +kernel
theorem dX9_isSecondNumber_77 : decode cX9_isSecondNumber 77 = .ok (.iload_n 1, 1) := by decide +kernel
theorem dX9_isSecondNumber_78 : decode cX9_isSecondNumber 78 = .ok (.sipush (-999), 3) := by decide +kernel
theorem dX9_isSecondNumber_81 : decode cX9_isSecondNumber 81 = .ok (.sipush 999, 3) := by decide +kernel
theorem dX9_isSecondNumber_84 : decode cX9_isSecondNumber 84 = .ok (.invokestatic 146, 3) := by decide +kernel
theorem dX9_isSecondNumber_87 : decode cX9_isSecondNumber 87 = .ok (.ireturn, 1) := by decide +kernel
theorem dX9_isSecondNumber_88 : decode cX9_isSecondNumber 88 = .ok (.iload_n 1, 1) := by decide +kernel
theorem dX9_isSecondNumber_89 : decode cX9_isSecondNumber 89 = .ok (.invokestatic 211, 3) := by decide +kernel
theorem dX9_isSecondNumber_92 : decode cX9_isSecondNumber 92 = .ok (.ireturn, 1) := by decide +kernel
theorem dX9_isSecondNumber_93 : decode cX9_isSecondNumber 93 = .ok (.iload_n 1, 1) := by decide +kernel
theorem dX9_isSecondNumber_94 : decode cX9_isSecondNumber 94 = .ok (.iconst 0, 1) := by decide +kernel
theorem dX9_isSecondNumber_95 : decode cX9_isSecondNumber 95 = .ok (.bipush 39, 2) := by decide +kernel
theorem dX9_isSecondNumber_97 : decode cX9_isSecondNumber 97 = .ok (.invokestatic 146, 3) := by decide +kernel
theorem dX9_isSecondNumber_100 : decode cX9_isSecondNumber 100 = .ok (.ireturn, 1) := by decide +kernel
theorem dX9_isSecondNumber_101 : decode cX9_isSecondNumber 101 = .ok (.iconst 1, 1) := by decide +kernel
theorem dX9_isSecondNumber_102 : decode cX9_isSecondNumber 102 = .ok (.ireturn, 1) := by decide +kernel
theorem dX9_isSet_0 : decode cX9_isSet 0 = .ok (.iload_n 0, 1) := by decide +kernel
theorem dX9_isSet_1 : decode cX9_isSet 1 = .ok (.iload_n 1, 1) := by decide +kernel
theorem dX9_isSet_2 : decode cX9_isSet 2 = .ok (.iushr, 1) := by decide +kernel
theorem dX9_isSet_3 : decode cX9_isSet 3 = .ok (.iconst 1, 1) := by decide +kernel
theorem dX9_isSet_4 : decode cX9_isSet 4 = .ok (.iand, 1) := by decide +kernel
theorem dX9_isSet_5 : decode cX9_isSet 5 = .ok (.iconst 1, 1) := by decide +kernel
theorem dX9_isSet_6 : decode cX9_isSet 6 = .ok (.if_icmp .ne 7, 3) := by decide +kernel
theorem dX9_isSet_9 : decode cX9_isSet 9 = .ok (.iconst 1, 1) := by decide +kernel
theorem dX9_isSet_10 : decode cX9_isSet 10 = .ok (.goto 4, 3) := by decide +kernel
theorem dX9_isSet_13 : decode cX9_isSet 13 = .ok (.iconst 0, 1) := by decide +kernel
theorem dX9_isSet_14 : decode cX9_isSet 14 = .ok (.ireturn, 1) := by decide +kernel
theorem dX9_maskOf_0 : decode cX9_maskOf 0 = .ok (.iload_n 0, 1) := by decide +kernel
theorem dX9_maskOf_1 : decode cX9_maskOf 1 = .ok (.ifCond .ge 7, 3) := by decide +kernel
theorem dX9_maskOf_4 : decode cX9_maskOf 4 = .ok (.iconst 0, 1) := by decide +kernel
theorem dX9_maskOf_5 : decode cX9_maskOf 5 = .ok (.goto 6, 3) := by decide +kernel
theorem dX9_maskOf_8 : decode cX9_maskOf 8 = .ok (.iconst 1, 1) := by decide +kernel
theorem dX9_maskOf_9 : decode cX9_maskOf 9 = .ok (.iload_n 0, 1) := by decide +kernel
theorem dX9_maskOf_10 : decode cX9_maskOf 10 = .ok (.ishl, 1) := by decide +kernel
theorem dX9_maskOf_11 : decode cX9_maskOf 11 = .ok (.ireturn, 1) := by decide +kernel
theorem dX9_outputsOf_0 : decode cX9_outputsOf 0 = .ok (.iload_n 0, 1) := by decide +kernel
theorem dX9_outputsOf_1 : decode cX9_outputsOf 1 = .ok (.bipush 8, 2) := by decide +kernel
theorem dX9_outputsOf_3 : decode cX9_outputsOf 3 = .ok (.iushr, 1) := by decide +kernel
theorem dX9_outputsOf_4 : decode cX9_outputsOf 4 = .ok (.sipush 255, 3) := by decide +kernel
theorem dX9_outputsOf_7 : decode cX9_outputsOf 7 = .ok (.iand, 1) := by decide +kernel
theorem dX9_outputsOf_8 : decode cX9_outputsOf 8 = .ok (.ireturn, 1) := by decide +kernel
theorem dX9_readBits_0 : decode cX9_readBits 0 = .ok (.aload_n 0, 1) := by decide +kernel
theorem dX9_readBits_1 : decode cX9_readBits 1 = .ok (.getfield 22, 3) := by decide +kernel
theorem dX9_readBits_4 : decode cX9_readBits 4 = .ok (.getfield 362, 3) := by decide +kernel
theorem dX9_readBits_7 : decode cX9_readBits 7 = .ok (.aload_n 0, 1) := by decide +kernel
theorem dX9_readBits_8 : decode cX9_readBits 8 = .ok (.getfield 221, 3) := by decide +kernel
theorem dX9_readBits_11 : decode cX9_readBits 11 = .ok (.iconst (-1), 1) := by decide +kernel
theorem dX9_readBits_12 : decode cX9_readBits 12 = .ok (.ixor, 1) := by decide +kernel
theorem dX9_readBits_13 : decode cX9_readBits 13 = .ok (.iand, 1) := by decide +kernel
theorem dX9_readBits_14 : decode cX9_readBits 14 = .ok (.aload_n 0, 1) := by decide +kernel
theorem dX9_readBits_15 : decode cX9_readBits 15 = .ok (.getfield 224, 3) := by decide +kernel
theorem dX9_readBits_18 : decode cX9_readBits 18 = .ok (.ior, 1) := by decide +kernel
theorem dX9_readBits_19 : decode cX9_readBits 19 = .ok (.ireturn, 1) := by decide +kernel
theorem dX9_keepWhatWasSeen_0 : decode cX9_keepWhatWasSeen 0 = .ok (.iconst 0, 1) := by decide +kernel
theorem dX9_keepWhatWasSeen_1 : decode cX9_keepWhatWasSeen 1 = .ok (.istore_n 1, 1) := by decide +kernel
theorem dX9_keepWhatWasSeen_2 : decode cX9_keepWhatWasSeen 2 = .ok (.iload_n 1, 1) := by decide +kernel
theorem dX9_keepWhatWasSeen_3 : decode cX9_keepWhatWasSeen 3 = .ok (.bipush 40, 2) := by decide +kernel
theorem dX9_keepWhatWasSeen_5 : decode cX9_keepWhatWasSeen 5 = .ok (.if_icmp .ge 120, 3) := by decide +kernel
theorem dX9_keepWhatWasSeen_8 : decode cX9_keepWhatWasSeen 8 = .ok (.iconst 0, 1) := by decide +kernel
theorem dX9_keepWhatWasSeen_9 : decode cX9_keepWhatWasSeen 9 = .ok (.istore_n 2, 1) := by decide +kernel
theorem dX9_keepWhatWasSeen_10 : decode cX9_keepWhatWasSeen 10 = .ok (.iconst 0, 1) := by decide +kernel
theorem dX9_keepWhatWasSeen_11 : decode cX9_keepWhatWasSeen 11 = .ok (.istore_n 3, 1) := by decide +kernel
theorem dX9_keepWhatWasSeen_12 : decode cX9_keepWhatWasSeen 12 = .ok (.iload_n 1, 1) := by decide +kernel
theorem dX9_keepWhatWasSeen_13 : decode cX9_keepWhatWasSeen 13 = .ok (.aload_n 0, 1) := by decide +kernel
theorem dX9_keepWhatWasSeen_14 : decode cX9_keepWhatWasSeen 14 = .ok (.getfield 10, 3) := by decide +kernel
theorem dX9_keepWhatWasSeen_17 : decode cX9_keepWhatWasSeen 17 = .ok (.getfield 79, 3) := by decide +kernel
theorem dX9_keepWhatWasSeen_20 : decode cX9_keepWhatWasSeen 20 = .ok (.if_icmp .ge 58, 3) := by decide +kernel
theorem dX9_keepWhatWasSeen_23 : decode cX9_keepWhatWasSeen 23 = .ok (.iload_n 1, 1) := by decide +kernel
theorem dX9_keepWhatWasSeen_24 : decode cX9_keepWhatWasSeen 24 = .ok (.aload_n 0, 1) := by decide +kernel
theorem dX9_keepWhatWasSeen_25 : decode cX9_keepWhatWasSeen 25 = .ok (.getfield 16, 3) := by decide +kernel
theorem dX9_keepWhatWasSeen_28 : decode cX9_keepWhatWasSeen 28 = .ok (.getfield 79, 3) := by decide +kernel
theorem dX9_keepWhatWasSeen_31 : decode cX9_keepWhatWasSeen 31 = .ok (.if_icmp .ge 47, 3) := by decide +kernel
theorem dX9_keepWhatWasSeen_34 : decode cX9_keepWhatWasSeen 34 = .ok (.aload_n 0, 1) := by decide +kernel
theorem dX9_keepWhatWasSeen_35 : decode cX9_keepWhatWasSeen 35 = .ok (.getfield 10, 3) := by decide +kernel
theorem dX9_keepWhatWasSeen_38 : decode cX9_keepWhatWasSeen 38 = .ok (.getfield 85, 3) := by decide +kernel
theorem dX9_keepWhatWasSeen_41 : decode cX9_keepWhatWasSeen 41 = .ok (.iload_n 1, 1) := by decide +kernel
theorem dX9_keepWhatWasSeen_42 : decode cX9_keepWhatWasSeen 42 = .ok (.aaload, 1) := by decide +kernel
theorem dX9_keepWhatWasSeen_43 : decode cX9_keepWhatWasSeen 43 = .ok (.aload_n 0, 1) := by decide +kernel
theorem dX9_keepWhatWasSeen_44 : decode cX9_keepWhatWasSeen 44 = .ok (.getfield 16, 3) := by decide +kernel
theorem dX9_keepWhatWasSeen_47 : decode cX9_keepWhatWasSeen 47 = .ok (.getfield 85, 3) := by decide +kernel
theorem dX9_keepWhatWasSeen_50 : decode cX9_keepWhatWasSeen 50 = .ok (.iload_n 1, 1) := by decide +kernel
theorem dX9_keepWhatWasSeen_51 : decode cX9_keepWhatWasSeen 51 = .ok (.aaload, 1) := by decide +kernel
theorem dX9_keepWhatWasSeen_52 : decode cX9_keepWhatWasSeen 52 = .ok (.invokestatic 364, 3) := by decide +kernel
theorem dX9_keepWhatWasSeen_55 : decode cX9_keepWhatWasSeen 55 = .ok (.istore_n 2, 1) := by decide +kernel
theorem dX9_keepWhatWasSeen_56 : decode cX9_keepWhatWasSeen 56 = .ok (.aload_n 0, 1) := by decide +kernel
theorem dX9_keepWhatWasSeen_57 : decode cX9_keepWhatWasSeen 57 = .ok (.getfield 10, 3) := by decide +kernel
theorem dX9_keepWhatWasSeen_60 : decode cX9_keepWhatWasSeen 60 = .ok (.getfield 85, 3) := by decide +kernel
theorem dX9_keepWhatWasSeen_63 : decode cX9_keepWhatWasSeen 63 = .ok (.iload_n 1, 1) := by decide +kernel
theorem dX9_keepWhatWasSeen_64 : decode cX9_keepWhatWasSeen 64 = .ok (.aaload, 1) := by decide +kernel
theorem dX9_keepWhatWasSeen_65 : decode cX9_keepWhatWasSeen 65 = .ok (.aload_n 0, 1) := by decide +kernel
theorem dX9_keepWhatWasSeen_66 : decode cX9_keepWhatWasSeen 66 = .ok (.getfield 16, 3) := by decide +kernel
theorem dX9_keepWhatWasSeen_69 : decode cX9_keepWhatWasSeen 69 = .ok (.getfield 85, 3) := by decide +kernel
theorem dX9_keepWhatWasSeen_72 : decode cX9_keepWhatWasSeen 72 = .ok (.iload_n 1, 1) := by decide +kernel
theorem dX9_keepWhatWasSeen_73 : decode cX9_keepWhatWasSeen 73 = .ok (.aaload, 1) := by decide +kernel
theorem dX9_keepWhatWasSeen_74 : decode cX9_keepWhatWasSeen 74 = .ok (.invokevirtual 368, 3) := by decide +kernel
theorem dX9_keepWhatWasSeen_77 : decode cX9_keepWhatWasSeen 77 = .ok (.istore_n 3, 1) := by decide +kernel
theorem dX9_keepWhatWasSeen_78 : decode cX9_keepWhatWasSeen 78 = .ok (.aload_n 0, 1) := by decide +kernel
theorem dX9_keepWhatWasSeen_79 : decode cX9_keepWhatWasSeen 79 = .ok (.getfield 22, 3) := by decide +kernel
theorem dX9_keepWhatWasSeen_82 : decode cX9_keepWhatWasSeen 82 = .ok (.getfield 372, 3) := by decide +kernel
theorem dX9_keepWhatWasSeen_85 : decode cX9_keepWhatWasSeen 85 = .ok (.iload_n 1, 1) := by decide +kernel
theorem dX9_keepWhatWasSeen_86 : decode cX9_keepWhatWasSeen 86 = .ok (.dup2, 1) := by decide +kernel
theorem dX9_keepWhatWasSeen_87 : decode cX9_keepWhatWasSeen 87 = .ok (.iaload, 1) := by decide +kernel
theorem dX9_keepWhatWasSeen_88 : decode cX9_keepWhatWasSeen 88 = .ok (.iload_n 2, 1) := by decide +kernel
theorem dX9_keepWhatWasSeen_89 : decode cX9_keepWhatWasSeen 89 = .ok (.iand, 1) := by decide +kernel
theorem dX9_keepWhatWasSeen_90 : decode cX9_keepWhatWasSeen 90 = .ok (.iastore, 1) := by decide +kernel
theorem dX9_keepWhatWasSeen_91 : decode cX9_keepWhatWasSeen 91 = .ok (.aload_n 0, 1) := by decide +kernel
theorem dX9_keepWhatWasSeen_92 : decode cX9_keepWhatWasSeen 92 = .ok (.getfield 22, 3) := by decide +kernel
theorem dX9_keepWhatWasSeen_95 : decode cX9_keepWhatWasSeen 95 = .ok (.iload_n 1, 1) := by decide +kernel
theorem dX9_keepWhatWasSeen_96 : decode cX9_keepWhatWasSeen 96 = .ok (.aload_n 0, 1) := by decide +kernel
theorem dX9_keepWhatWasSeen_97 : decode cX9_keepWhatWasSeen 97 = .ok (.getfield 22, 3) := by decide +kernel
theorem dX9_keepWhatWasSeen_100 : decode cX9_keepWhatWasSeen 100 = .ok (.iload_n 1, 1) := by decide +kernel
theorem dX9_keepWhatWasSeen_101 : decode cX9_keepWhatWasSeen 101 = .ok (.invokevirtual 375, 3) := by decide +kernel
theorem dX9_keepWhatWasSeen_104 : decode cX9_keepWhatWasSeen 104 = .ok (.ifCond .eq 11, 3) := by decide +kernel
theorem dX9_keepWhatWasSeen_107 : decode cX9_keepWhatWasSeen 107 = .ok (.iload_n 3, 1) := by decide +kernel
theorem dX9_keepWhatWasSeen_108 : decode cX9_keepWhatWasSeen 108 = .ok (.ifCond .eq 7, 3) := by decide +kernel
theorem dX9_keepWhatWasSeen_111 : decode cX9_keepWhatWasSeen 111 = .ok (.iconst 1, 1) := by decide +kernel
theorem dX9_keepWhatWasSeen_112 : decode cX9_keepWhatWasSeen 112 = .ok (.goto 4, 3) := by decide +kernel
theorem dX9_keepWhatWasSeen_115 : decode cX9_keepWhatWasSeen 115 = .ok (.iconst 0, 1) := by decide +kernel
theorem dX9_keepWhatWasSeen_116 : decode cX9_keepWhatWasSeen 116 = .ok (.invokevirtual 378, 3) := by decide +kernel
theorem dX9_keepWhatWasSeen_119 : decode cX9_keepWhatWasSeen 119 = .ok (.iinc 1 1, 3) := by decide +kernel
theorem dX9_keepWhatWasSeen_122 : decode cX9_keepWhatWasSeen 122 = .ok (.goto (-120), 3) := by decide +kernel
theorem dX9_keepWhatWasSeen_125 : decode cX9_keepWhatWasSeen 125 = .ok (.return_, 1) := by decide +kernel
theorem dX9_sameContacts_0 : decode cX9_sameContacts 0 = .ok (.iconst 0, 1) := by decide +kernel
theorem dX9_sameContacts_1 : decode cX9_sameContacts 1 = .ok (.istore_n 2, 1) := by decide +kernel
theorem dX9_sameContacts_2 : decode cX9_sameContacts 2 = .ok (.iconst 0, 1) := by decide +kernel
theorem dX9_sameContacts_3 : decode cX9_sameContacts 3 = .ok (.istore_n 3, 1) := by decide +kernel
theorem dX9_sameContacts_4 : decode cX9_sameContacts 4 = .ok (.iload_n 3, 1) := by decide +kernel
theorem dX9_sameContacts_5 : decode cX9_sameContacts 5 = .ok (.iconst 4, 1) := by decide +kernel
theorem dX9_sameContacts_6 : decode cX9_sameContacts 6 = .ok (.if_icmp .ge 24, 3) := by decide +kernel
theorem dX9_sameContacts_9 : decode cX9_sameContacts 9 = .ok (.aload_n 0, 1) := by decide +kernel
theorem dX9_sameContacts_10 : decode cX9_sameContacts 10 = .ok (.aload_n 1, 1) := by decide +kernel
theorem dX9_sameContacts_11 : decode cX9_sameContacts 11 = .ok (.iload_n 3, 1) := by decide +kernel
theorem dX9_sameContacts_12 : decode cX9_sameContacts 12 = .ok (.invokevirtual 382, 3) := by decide +kernel
theorem dX9_sameContacts_15 : decode cX9_sameContacts 15 = .ok (.ifCond .eq 9, 3) := by decide +kernel
theorem dX9_sameContacts_18 : decode cX9_sameContacts 18 = .ok (.iload_n 2, 1) := by decide +kernel
theorem dX9_sameContacts_19 : decode cX9_sameContacts 19 = .ok (.iconst 1, 1) := by decide +kernel
theorem dX9_sameContacts_20 : decode cX9_sameContacts 20 = .ok (.iload_n 3, 1) := by decide +kernel
theorem dX9_sameContacts_21 : decode cX9_sameContacts 21 = .ok (.ishl, 1) := by decide +kernel
theorem dX9_sameContacts_22 : decode cX9_sameContacts 22 = .ok (.ior, 1) := by decide +kernel
theorem dX9_sameContacts_23 : decode cX9_sameContacts 23 = .ok (.istore_n 2, 1) := by decide +kernel
theorem dX9_sameContacts_24 : decode cX9_sameContacts 24 = .ok (.iinc 3 1, 3) := by decide +kernel
theorem dX9_sameContacts_27 : decode cX9_sameContacts 27 = .ok (.goto (-23), 3) := by decide +kernel
theorem dX9_sameContacts_30 : decode cX9_sameContacts 30 = .ok (.iload_n 2, 1) := by decide +kernel
theorem dX9_sameContacts_31 : decode cX9_sameContacts 31 = .ok (.ireturn, 1) := by decide +kernel
theorem dX9_passOneUnit_0 : decode cX9_passOneUnit 0 = .ok (.aload_n 0, 1) := by decide +kernel
theorem dX9_passOneUnit_1 : decode cX9_passOneUnit 1 = .ok (.dup, 1) := by decide +kernel
theorem dX9_passOneUnit_2 : decode cX9_passOneUnit 2 = .ok (.getfield 242, 3) := by decide +kernel
theorem dX9_passOneUnit_5 : decode cX9_passOneUnit 5 = .ok (.iconst 1, 1) := by decide +kernel
theorem dX9_passOneUnit_6 : decode cX9_passOneUnit 6 = .ok (.iadd, 1) := by decide +kernel
theorem dX9_passOneUnit_7 : decode cX9_passOneUnit 7 = .ok (.putfield 242, 3) := by decide +kernel
theorem dX9_passOneUnit_10 : decode cX9_passOneUnit 10 = .ok (.aload_n 0, 1) := by decide +kernel
theorem dX9_passOneUnit_11 : decode cX9_passOneUnit 11 = .ok (.getfield 22, 3) := by decide +kernel
theorem dX9_passOneUnit_14 : decode cX9_passOneUnit 14 = .ok (.getfield 249, 3) := by decide +kernel
theorem dX9_passOneUnit_17 : decode cX9_passOneUnit 17 = .ok (.invokevirtual 386, 3) := by decide +kernel
theorem dX9_passOneUnit_20 : decode cX9_passOneUnit 20 = .ok (.aload_n 0, 1) := by decide +kernel
theorem dX9_passOneUnit_21 : decode cX9_passOneUnit 21 = .ok (.getfield 32, 3) := by decide +kernel
theorem dX9_passOneUnit_24 : decode cX9_passOneUnit 24 = .ok (.getfield 279, 3) := by decide +kernel
theorem dX9_passOneUnit_27 : decode cX9_passOneUnit 27 = .ok (.istore_n 1, 1) := by decide +kernel
theorem dX9_passOneUnit_28 : decode cX9_passOneUnit 28 = .ok (.aload_n 0, 1) := by decide +kernel
theorem dX9_passOneUnit_29 : decode cX9_passOneUnit 29 = .ok (.getfield 32, 3) := by decide +kernel
theorem dX9_passOneUnit_32 : decode cX9_passOneUnit 32 = .ok (.iconst 0, 1) := by decide +kernel
theorem dX9_passOneUnit_33 : decode cX9_passOneUnit 33 = .ok (.putfield 279, 3) := by decide +kernel
theorem dX9_passOneUnit_36 : decode cX9_passOneUnit 36 = .ok (.aload_n 0, 1) := by decide +kernel
theorem dX9_passOneUnit_37 : decode cX9_passOneUnit 37 = .ok (.invokevirtual 389, 3) := by decide +kernel
theorem dX9_passOneUnit_40 : decode cX9_passOneUnit 40 = .ok (.istore_n 2, 1) := by decide +kernel
theorem dX9_passOneUnit_41 : decode cX9_passOneUnit 41 = .ok (.aload_n 0, 1) := by decide +kernel
theorem dX9_passOneUnit_42 : decode cX9_passOneUnit 42 = .ok (.getfield 291, 3) := by decide +kernel
theorem dX9_passOneUnit_45 : decode cX9_passOneUnit 45 = .ok (.ifCond .ne 28, 3) := by decide +kernel
theorem dX9_passOneUnit_48 : decode cX9_passOneUnit 48 = .ok (.iload_n 2, 1) := by decide +kernel
theorem dX9_passOneUnit_49 : decode cX9_passOneUnit 49 = .ok (.ifCond .ne 19, 3) := by decide +kernel
theorem dX9_passOneUnit_52 : decode cX9_passOneUnit 52 = .ok (.aload_n 0, 1) := by decide +kernel
theorem dX9_passOneUnit_53 : decode cX9_passOneUnit 53 = .ok (.getfield 48, 3) := by decide +kernel
theorem dX9_passOneUnit_56 : decode cX9_passOneUnit 56 = .ok (.iconst 1, 1) := by decide +kernel
theorem dX9_passOneUnit_57 : decode cX9_passOneUnit 57 = .ok (.aaload, 1) := by decide +kernel
theorem dX9_passOneUnit_58 : decode cX9_passOneUnit 58 = .ok (.aload_n 0, 1) := by decide +kernel
theorem dX9_passOneUnit_59 : decode cX9_passOneUnit 59 = .ok (.getfield 242, 3) := by decide +kernel
theorem dX9_passOneUnit_62 : decode cX9_passOneUnit 62 = .ok (.invokevirtual 392, 3) := by decide +kernel
theorem dX9_passOneUnit_65 : decode cX9_passOneUnit 65 = .ok (.ifCond .eq 8, 3) := by decide +kernel
theorem dX9_passOneUnit_68 : decode cX9_passOneUnit 68 = .ok (.aload_n 0, 1) := by decide +kernel
theorem dX9_passOneUnit_69 : decode cX9_passOneUnit 69 = .ok (.iconst 1, 1) := by decide +kernel
theorem dX9_passOneUnit_70 : decode cX9_passOneUnit 70 = .ok (.invokevirtual 395, 3) := by decide +kernel
theorem dX9_passOneUnit_73 : decode cX9_passOneUnit 73 = .ok (.aload_n 0, 1) := by decide +kernel
theorem dX9_passOneUnit_74 : decode cX9_passOneUnit 74 = .ok (.getfield 291, 3) := by decide +kernel
theorem dX9_passOneUnit_77 : decode cX9_passOneUnit 77 = .ok (.ifCond .ne 28, 3) := by decide +kernel
theorem dX9_passOneUnit_80 : decode cX9_passOneUnit 80 = .ok (.iload_n 1, 1) := by decide +kernel
theorem dX9_passOneUnit_81 : decode cX9_passOneUnit 81 = .ok (.ifCond .ne 19, 3) := by decide +kernel
theorem dX9_passOneUnit_84 : decode cX9_passOneUnit 84 = .ok (.aload_n 0, 1) := by decide +kernel
theorem dX9_passOneUnit_85 : decode cX9_passOneUnit 85 = .ok (.getfield 48, 3) := by decide +kernel
theorem dX9_passOneUnit_88 : decode cX9_passOneUnit 88 = .ok (.iconst 0, 1) := by decide +kernel
theorem dX9_passOneUnit_89 : decode cX9_passOneUnit 89 = .ok (.aaload, 1) := by decide +kernel
theorem dX9_passOneUnit_90 : decode cX9_passOneUnit 90 = .ok (.aload_n 0, 1) := by decide +kernel
theorem dX9_passOneUnit_91 : decode cX9_passOneUnit 91 = .ok (.getfield 242, 3) := by decide +kernel
theorem dX9_passOneUnit_94 : decode cX9_passOneUnit 94 = .ok (.invokevirtual 392, 3) := by decide +kernel
theorem dX9_passOneUnit_97 : decode cX9_passOneUnit 97 = .ok (.ifCond .eq 8, 3) := by decide +kernel
theorem dX9_passOneUnit_100 : decode cX9_passOneUnit 100 = .ok (.aload_n 0, 1) := by decide +kernel
theorem dX9_passOneUnit_101 : decode cX9_passOneUnit 101 = .ok (.iconst 0, 1) := by decide +kernel
theorem dX9_passOneUnit_102 : decode cX9_passOneUnit 102 = .ok (.invokevirtual 395, 3) := by decide +kernel
theorem dX9_passOneUnit_105 : decode cX9_passOneUnit 105 = .ok (.return_, 1) := by decide +kernel
theorem dX9_lookAtStart_0 : decode cX9_lookAtStart 0 = .ok (.iconst 0, 1) := by decide +kernel
theorem dX9_lookAtStart_1 : decode cX9_lookAtStart 1 = .ok (.istore_n 1, 1) := by decide +kernel
theorem dX9_lookAtStart_2 : decode cX9_lookAtStart 2 = .ok (.aload_n 0, 1) := by decide +kernel
theorem dX9_lookAtStart_3 : decode cX9_lookAtStart 3 = .ok (.getfield 52, 3) := by decide +kernel
theorem dX9_lookAtStart_6 : decode cX9_lookAtStart 6 = .ok (.iconst (-1), 1) := by decide +kernel
theorem dX9_lookAtStart_7 : decode cX9_lookAtStart 7 = .ok (.if_icmp .eq 58, 3) := by decide +kernel
theorem dX9_lookAtStart_10 : decode cX9_lookAtStart 10 = .ok (.aload_n 0, 1) := by decide +kernel
theorem dX9_lookAtStart_11 : decode cX9_lookAtStart 11 = .ok (.getfield 52, 3) := by decide +kernel
theorem dX9_lookAtStart_14 : decode cX9_lookAtStart 14 = .ok (.bipush 8, 2) := by decide +kernel
theorem dX9_lookAtStart_16 : decode cX9_lookAtStart 16 = .ok (.if_icmp .ge 21, 3) := by decide +kernel
theorem dX9_lookAtStart_19 : decode cX9_lookAtStart 19 = .ok (.aload_n 0, 1) := by decide +kernel
theorem dX9_lookAtStart_20 : decode cX9_lookAtStart 20 = .ok (.getfield 221, 3) := by decide +kernel
theorem dX9_lookAtStart_23 : decode cX9_lookAtStart 23 = .ok (.aload_n 0, 1) := by decide +kernel
theorem dX9_lookAtStart_24 : decode cX9_lookAtStart 24 = .ok (.getfield 52, 3) := by decide +kernel
theorem dX9_lookAtStart_27 : decode cX9_lookAtStart 27 = .ok (.invokestatic 217, 3) := by decide +kernel
theorem dX9_lookAtStart_30 : decode cX9_lookAtStart 30 = .ok (.ifCond .ne 7, 3) := by decide +kernel
theorem dX9_lookAtStart_33 : decode cX9_lookAtStart 33 = .ok (.iconst 1, 1) := by decide +kernel
theorem dX9_lookAtStart_34 : decode cX9_lookAtStart 34 = .ok (.goto 4, 3) := by decide +kernel
theorem dX9_lookAtStart_37 : decode cX9_lookAtStart 37 = .ok (.iconst 0, 1) := by decide +kernel
theorem dX9_lookAtStart_38 : decode cX9_lookAtStart 38 = .ok (.istore_n 2, 1) := by decide +kernel
theorem dX9_lookAtStart_39 : decode cX9_lookAtStart 39 = .ok (.iload_n 2, 1) := by decide +kernel
theorem dX9_lookAtStart_40 : decode cX9_lookAtStart 40 = .ok (.ifCond .eq 13, 3) := by decide +kernel
theorem dX9_lookAtStart_43 : decode cX9_lookAtStart 43 = .ok (.aload_n 0, 1) := by decide +kernel
theorem dX9_lookAtStart_44 : decode cX9_lookAtStart 44 = .ok (.getfield 39, 3) := by decide +kernel
theorem dX9_lookAtStart_47 : decode cX9_lookAtStart 47 = .ok (.getfield 214, 3) := by decide +kernel
theorem dX9_lookAtStart_50 : decode cX9_lookAtStart 50 = .ok (.goto 7, 3) := by decide +kernel
theorem dX9_lookAtStart_53 : decode cX9_lookAtStart 53 = .ok (.aload_n 0, 1) := by decide +kernel
theorem dX9_lookAtStart_54 : decode cX9_lookAtStart 54 = .ok (.invokevirtual 303, 3) := by decide +kernel
theorem dX9_lookAtStart_57 : decode cX9_lookAtStart 57 = .ok (.aload_n 0, 1) := by decide +kernel
theorem dX9_lookAtStart_58 : decode cX9_lookAtStart 58 = .ok (.getfield 52, 3) := by decide +kernel
theorem dX9_lookAtStart_61 : decode cX9_lookAtStart 61 = .ok (.invokestatic 217, 3) := by decide +kernel
theorem dX9_lookAtStart_64 : decode cX9_lookAtStart 64 = .ok (.istore_n 1, 1) := by decide +kernel
theorem dX9_lookAtStart_65 : decode cX9_lookAtStart 65 = .ok (.iload_n 1, 1) := by decide +kernel
theorem dX9_lookAtStart_66 : decode cX9_lookAtStart 66 = .ok (.ifCond .eq 14, 3) := by decide +kernel
theorem dX9_lookAtStart_69 : decode cX9_lookAtStart 69 = .ok (.aload_n 0, 1) := by decide +kernel
theorem dX9_lookAtStart_70 : decode cX9_lookAtStart 70 = .ok (.getfield 230, 3) := by decide +kernel
theorem dX9_lookAtStart_73 : decode cX9_lookAtStart 73 = .ok (.ifCond .ne 7, 3) := by decide +kernel
theorem dX9_lookAtStart_76 : decode cX9_lookAtStart 76 = .ok (.iconst 1, 1) := by decide +kernel
theorem dX9_lookAtStart_77 : decode cX9_lookAtStart 77 = .ok (.goto 4, 3) := by decide +kernel
theorem dX9_lookAtStart_80 : decode cX9_lookAtStart 80 = .ok (.iconst 0, 1) := by decide +kernel
theorem dX9_lookAtStart_81 : decode cX9_lookAtStart 81 = .ok (.istore_n 2, 1) := by decide +kernel
theorem dX9_lookAtStart_82 : decode cX9_lookAtStart 82 = .ok (.aload_n 0, 1) := by decide +kernel
theorem dX9_lookAtStart_83 : decode cX9_lookAtStart 83 = .ok (.iload_n 1, 1) := by decide +kernel
theorem dX9_lookAtStart_84 : decode cX9_lookAtStart 84 = .ok (.putfield 230, 3) := by decide +kernel
theorem dX9_lookAtStart_87 : decode cX9_lookAtStart 87 = .ok (.iload_n 2, 1) := by decide +kernel
theorem dX9_lookAtStart_88 : decode cX9_lookAtStart 88 = .ok (.ireturn, 1) := by decide +kernel
theorem dX9_scanTask_0 : decode cX9_scanTask 0 = .ok (.aload_n 0, 1) := by decide +kernel
theorem dX9_scanTask_1 : decode cX9_scanTask 1 = .ok (.getfield 22, 3) := by decide +kernel
theorem dX9_scanTask_4 : decode cX9_scanTask 4 = .ok (.aload_n 0, 1) := by decide +kernel
theorem dX9_scanTask_5 : decode cX9_scanTask 5 = .ok (.getfield 39, 3) := by decide +kernel
theorem dX9_scanTask_8 : decode cX9_scanTask 8 = .ok (.aload_n 0, 1) := by decide +kernel
theorem dX9_scanTask_9 : decode cX9_scanTask 9 = .ok (.getfield 22, 3) := by decide +kernel
theorem dX9_scanTask_12 : decode cX9_scanTask 12 = .ok (.getfield 362, 3) := by decide +kernel
theorem dX9_scanTask_15 : decode cX9_scanTask 15 = .ok (.invokevirtual 398, 3) := by decide +kernel
theorem dX9_scanTask_18 : decode cX9_scanTask 18 = .ok (.putfield 362, 3) := by decide +kernel
theorem dX9_scanTask_21 : decode cX9_scanTask 21 = .ok (.iload_n 1, 1) := by decide +kernel
theorem dX9_scanTask_22 : decode cX9_scanTask 22 = .ok (.ifCond .ne 24, 3) := by decide +kernel
theorem dX9_scanTask_25 : decode cX9_scanTask 25 = .ok (.aload_n 0, 1) := by decide +kernel
theorem dX9_scanTask_26 : decode cX9_scanTask 26 = .ok (.getfield 22, 3) := by decide +kernel
theorem dX9_scanTask_29 : decode cX9_scanTask 29 = .ok (.aload_n 0, 1) := by decide +kernel
theorem dX9_scanTask_30 : decode cX9_scanTask 30 = .ok (.getfield 39, 3) := by decide +kernel
theorem dX9_scanTask_33 : decode cX9_scanTask 33 = .ok (.aload_n 0, 1) := by decide +kernel
theorem dX9_scanTask_34 : decode cX9_scanTask 34 = .ok (.getfield 22, 3) := by decide +kernel
theorem dX9_scanTask_37 : decode cX9_scanTask 37 = .ok (.getfield 362, 3) := by decide +kernel
theorem dX9_scanTask_40 : decode cX9_scanTask 40 = .ok (.invokevirtual 401, 3) := by decide +kernel
theorem dX9_scanTask_43 : decode cX9_scanTask 43 = .ok (.putfield 362, 3) := by decide +kernel
theorem dX9_scanTask_46 : decode cX9_scanTask 46 = .ok (.aload_n 0, 1) := by decide +kernel
theorem dX9_scanTask_47 : decode cX9_scanTask 47 = .ok (.getfield 10, 3) := by decide +kernel
theorem dX9_scanTask_50 : decode cX9_scanTask 50 = .ok (.getfield 79, 3) := by decide +kernel
theorem dX9_scanTask_53 : decode cX9_scanTask 53 = .ok (.aload_n 0, 1) := by decide +kernel
theorem dX9_scanTask_54 : decode cX9_scanTask 54 = .ok (.getfield 48, 3) := by decide +kernel
theorem dX9_scanTask_57 : decode cX9_scanTask 57 = .ok (.iload_n 1, 1) := by decide +kernel
theorem dX9_scanTask_58 : decode cX9_scanTask 58 = .ok (.aaload, 1) := by decide +kernel
theorem dX9_scanTask_59 : decode cX9_scanTask 59 = .ok (.getfield 233, 3) := by decide +kernel
theorem dX9_scanTask_62 : decode cX9_scanTask 62 = .ok (.if_icmp .le 14, 3) := by decide +kernel
theorem dX9_scanTask_65 : decode cX9_scanTask 65 = .ok (.aload_n 0, 1) := by decide +kernel
theorem dX9_scanTask_66 : decode cX9_scanTask 66 = .ok (.getfield 26, 3) := by decide +kernel
theorem dX9_scanTask_69 : decode cX9_scanTask 69 = .ok (.aload_n 0, 1) := by decide +kernel
theorem dX9_scanTask_70 : decode cX9_scanTask 70 = .ok (.getfield 22, 3) := by decide +kernel
theorem dX9_scanTask_73 : decode cX9_scanTask 73 = .ok (.invokevirtual 277, 3) := by decide +kernel
theorem dX9_scanTask_76 : decode cX9_scanTask 76 = .ok (.aload_n 0, 1) := by decide +kernel
theorem dX9_scanTask_77 : decode cX9_scanTask 77 = .ok (.getfield 242, 3) := by decide +kernel
theorem dX9_scanTask_80 : decode cX9_scanTask 80 = .ok (.aload_n 0, 1) := by decide +kernel
theorem dX9_scanTask_81 : decode cX9_scanTask 81 = .ok (.getfield 22, 3) := by decide +kernel
theorem dX9_scanTask_84 : decode cX9_scanTask 84 = .ok (.getfield 404, 3) := by decide +kernel
theorem dX9_scanTask_87 : decode cX9_scanTask 87 = .ok (.iload_n 1, 1) := by decide +kernel
theorem dX9_scanTask_88 : decode cX9_scanTask 88 = .ok (.iaload, 1) := by decide +kernel
theorem dX9_scanTask_89 : decode cX9_scanTask 89 = .ok (.isub, 1) := by decide +kernel
theorem dX9_scanTask_90 : decode cX9_scanTask 90 = .ok (.istore_n 2, 1) := by decide +kernel
theorem dX9_scanTask_91 : decode cX9_scanTask 91 = .ok (.aload_n 0, 1) := by decide +kernel
theorem dX9_scanTask_92 : decode cX9_scanTask 92 = .ok (.iload_n 1, 1) := by decide +kernel
theorem dX9_scanTask_93 : decode cX9_scanTask 93 = .ok (.iload_n 2, 1) := by decide +kernel
theorem dX9_scanTask_94 : decode cX9_scanTask 94 = .ok (.invokevirtual 407, 3) := by decide +kernel
theorem dX9_scanTask_97 : decode cX9_scanTask 97 = .ok (.istore_n 3, 1) := by decide +kernel
theorem dX9_scanTask_98 : decode cX9_scanTask 98 = .ok (.iload_n 3, 1) := by decide +kernel
theorem dX9_scanTask_99 : decode cX9_scanTask 99 = .ok (.aload_n 0, 1) := by decide +kernel
theorem dX9_scanTask_100 : decode cX9_scanTask 100 = .ok (.getfield 48, 3) := by decide +kernel
theorem dX9_scanTask_103 : decode cX9_scanTask 103 = .ok (.iload_n 1, 1) := by decide +kernel
theorem dX9_scanTask_104 : decode cX9_scanTask 104 = .ok (.aaload, 1) := by decide +kernel
theorem dX9_scanTask_105 : decode cX9_scanTask 105 = .ok (.getfield 233, 3) := by decide +kernel
theorem dX9_scanTask_108 : decode cX9_scanTask 108 = .ok (.if_icmp .le 20, 3) := by decide +kernel
theorem dX9_scanTask_111 : decode cX9_scanTask 111 = .ok (.aload_n 0, 1) := by decide +kernel
theorem dX9_scanTask_112 : decode cX9_scanTask 112 = .ok (.getfield 22, 3) := by decide +kernel
theorem dX9_scanTask_115 : decode cX9_scanTask 115 = .ok (.aload_n 0, 1) := by decide +kernel
theorem dX9_scanTask_116 : decode cX9_scanTask 116 = .ok (.getfield 26, 3) := by decide +kernel
theorem dX9_scanTask_119 : decode cX9_scanTask 119 = .ok (.invokevirtual 277, 3) := by decide +kernel
theorem dX9_scanTask_122 : decode cX9_scanTask 122 = .ok (.aload_n 0, 1) := by decide +kernel
theorem dX9_scanTask_123 : decode cX9_scanTask 123 = .ok (.iload_n 1, 1) := by decide +kernel
theorem dX9_scanTask_124 : decode cX9_scanTask 124 = .ok (.invokevirtual 411, 3) := by decide +kernel
theorem dX9_scanTask_127 : decode cX9_scanTask 127 = .ok (.return_, 1) := by decide +kernel
theorem dX9_scanTask_128 : decode cX9_scanTask 128 = .ok (.iload_n 1, 1) := by decide +kernel
theorem dX9_scanTask_129 : decode cX9_scanTask 129 = .ok (.ifCond .ne 8, 3) := by decide +kernel
theorem dX9_scanTask_132 : decode cX9_scanTask 132 = .ok (.aload_n 0, 1) := by decide +kernel
theorem dX9_scanTask_133 : decode cX9_scanTask 133 = .ok (.iload_n 2, 1) := by decide +kernel
theorem dX9_scanTask_134 : decode cX9_scanTask 134 = .ok (.invokevirtual 414, 3) := by decide +kernel
theorem dX9_scanTask_137 : decode cX9_scanTask 137 = .ok (.aload_n 0, 1) := by decide +kernel
theorem dX9_scanTask_138 : decode cX9_scanTask 138 = .ok (.getfield 39, 3) := by decide +kernel
theorem dX9_scanTask_141 : decode cX9_scanTask 141 = .ok (.aload_n 0, 1) := by decide +kernel
theorem dX9_scanTask_142 : decode cX9_scanTask 142 = .ok (.invokevirtual 303, 3) := by decide +kernel
theorem dX9_scanTask_145 : decode cX9_scanTask 145 = .ok (.invokestatic 297, 3) := by decide +kernel
theorem dX9_scanTask_148 : decode cX9_scanTask 148 = .ok (.invokevirtual 300, 3) := by decide +kernel
theorem dX9_scanTask_151 : decode cX9_scanTask 151 = .ok (.aload_n 0, 1) := by decide +kernel
theorem dX9_scanTask_152 : decode cX9_scanTask 152 = .ok (.getfield 22, 3) := by decide +kernel
theorem dX9_scanTask_155 : decode cX9_scanTask 155 = .ok (.getfield 404, 3) := by decide +kernel
theorem dX9_scanTask_158 : decode cX9_scanTask 158 = .ok (.iload_n 1, 1) := by decide +kernel
theorem dX9_scanTask_159 : decode cX9_scanTask 159 = .ok (.aload_n 0, 1) := by decide +kernel
theorem dX9_scanTask_160 : decode cX9_scanTask 160 = .ok (.getfield 242, 3) := by decide +kernel
theorem dX9_scanTask_163 : decode cX9_scanTask 163 = .ok (.iastore, 1) := by decide +kernel
theorem dX9_scanTask_164 : decode cX9_scanTask 164 = .ok (.aload_n 0, 1) := by decide +kernel
theorem dX9_scanTask_165 : decode cX9_scanTask 165 = .ok (.getfield 48, 3) := by decide +kernel
theorem dX9_scanTask_168 : decode cX9_scanTask 168 = .ok (.iload_n 1, 1) := by decide +kernel
theorem dX9_scanTask_169 : decode cX9_scanTask 169 = .ok (.aaload, 1) := by decide +kernel
theorem dX9_scanTask_170 : decode cX9_scanTask 170 = .ok (.dup, 1) := by decide +kernel
theorem dX9_scanTask_171 : decode cX9_scanTask 171 = .ok (.getfield 334, 3) := by decide +kernel
theorem dX9_scanTask_174 : decode cX9_scanTask 174 = .ok (.iconst 1, 1) := by decide +kernel
theorem dX9_scanTask_175 : decode cX9_scanTask 175 = .ok (.iadd, 1) := by decide +kernel
theorem dX9_scanTask_176 : decode cX9_scanTask 176 = .ok (.putfield 334, 3) := by decide +kernel
theorem dX9_scanTask_179 : decode cX9_scanTask 179 = .ok (.aload_n 0, 1) := by decide +kernel
theorem dX9_scanTask_180 : decode cX9_scanTask 180 = .ok (.dup, 1) := by decide +kernel
theorem dX9_scanTask_181 : decode cX9_scanTask 181 = .ok (.getfield 348, 3) := by decide +kernel
theorem dX9_scanTask_184 : decode cX9_scanTask 184 = .ok (.iload_n 3, 1) := by decide +kernel
theorem dX9_scanTask_185 : decode cX9_scanTask 185 = .ok (.i2l, 1) := by decide +kernel
theorem dX9_scanTask_186 : decode cX9_scanTask 186 = .ok (.ladd, 1) := by decide +kernel
theorem dX9_scanTask_187 : decode cX9_scanTask 187 = .ok (.putfield 348, 3) := by decide +kernel
theorem dX9_scanTask_190 : decode cX9_scanTask 190 = .ok (.iload_n 1, 1) := by decide +kernel
theorem dX9_scanTask_191 : decode cX9_scanTask 191 = .ok (.ifCond .ne 29, 3) := by decide +kernel
theorem dX9_scanTask_194 : decode cX9_scanTask 194 = .ok (.aload_n 0, 1) := by decide +kernel
theorem dX9_scanTask_195 : decode cX9_scanTask 195 = .ok (.getfield 22, 3) := by decide +kernel
theorem dX9_scanTask_198 : decode cX9_scanTask 198 = .ok (.iconst 0, 1) := by decide +kernel
theorem dX9_scanTask_199 : decode cX9_scanTask 199 = .ok (.putfield 417, 3) := by decide +kernel
theorem dX9_scanTask_202 : decode cX9_scanTask 202 = .ok (.aload_n 0, 1) := by decide +kernel
theorem dX9_scanTask_203 : decode cX9_scanTask 203 = .ok (.getfield 32, 3) := by decide +kernel
theorem dX9_scanTask_206 : decode cX9_scanTask 206 = .ok (.invokevirtual 420, 3) := by decide +kernel
theorem dX9_scanTask_209 : decode cX9_scanTask 209 = .ok (.aload_n 0, 1) := by decide +kernel
theorem dX9_scanTask_210 : decode cX9_scanTask 210 = .ok (.getfield 32, 3) := by decide +kernel
theorem dX9_scanTask_213 : decode cX9_scanTask 213 = .ok (.aload_n 0, 1) := by decide +kernel
theorem dX9_scanTask_214 : decode cX9_scanTask 214 = .ok (.getfield 22, 3) := by decide +kernel
theorem dX9_scanTask_217 : decode cX9_scanTask 217 = .ok (.invokevirtual 207, 3) := by decide +kernel
theorem dX9_scanTask_220 : decode cX9_scanTask 220 = .ok (.return_, 1) := by decide +kernel
theorem dX9_countMissed_0 : decode cX9_countMissed 0 = .ok (.aload_n 0, 1) := by decide +kernel
theorem dX9_countMissed_1 : decode cX9_countMissed 1 = .ok (.getfield 48, 3) := by decide +kernel
theorem dX9_countMissed_4 : decode cX9_countMissed 4 = .ok (.iload_n 1, 1) := by decide +kernel
theorem dX9_countMissed_5 : decode cX9_countMissed 5 = .ok (.aaload, 1) := by decide +kernel
theorem dX9_countMissed_6 : decode cX9_countMissed 6 = .ok (.dup, 1) := by decide +kernel
theorem dX9_countMissed_7 : decode cX9_countMissed 7 = .ok (.getfield 337, 3) := by decide +kernel
theorem dX9_countMissed_10 : decode cX9_countMissed 10 = .ok (.iconst 1, 1) := by decide +kernel
theorem dX9_countMissed_11 : decode cX9_countMissed 11 = .ok (.iadd, 1) := by decide +kernel
theorem dX9_countMissed_12 : decode cX9_countMissed 12 = .ok (.putfield 337, 3) := by decide +kernel
theorem dX9_countMissed_15 : decode cX9_countMissed 15 = .ok (.iload_n 1, 1) := by decide +kernel
theorem dX9_countMissed_16 : decode cX9_countMissed 16 = .ok (.ifCond .ne 31, 3) := by decide +kernel
theorem dX9_countMissed_19 : decode cX9_countMissed 19 = .ok (.aload_n 0, 1) := by decide +kernel
theorem dX9_countMissed_20 : decode cX9_countMissed 20 = .ok (.getfield 22, 3) := by decide +kernel
theorem dX9_countMissed_23 : decode cX9_countMissed 23 = .ok (.dup, 1) := by decide +kernel
theorem dX9_countMissed_24 : decode cX9_countMissed 24 = .ok (.getfield 417, 3) := by decide +kernel
theorem dX9_countMissed_27 : decode cX9_countMissed 27 = .ok (.iconst 1, 1) := by decide +kernel
theorem dX9_countMissed_28 : decode cX9_countMissed 28 = .ok (.iadd, 1) := by decide +kernel
theorem dX9_countMissed_29 : decode cX9_countMissed 29 = .ok (.putfield 417, 3) := by decide +kernel
theorem dX9_countMissed_32 : decode cX9_countMissed 32 = .ok (.aload_n 0, 1) := by decide +kernel
theorem dX9_countMissed_33 : decode cX9_countMissed 33 = .ok (.getfield 22, 3) := by decide +kernel
theorem dX9_countMissed_36 : decode cX9_countMissed 36 = .ok (.getfield 417, 3) := by decide +kernel
theorem dX9_countMissed_39 : decode cX9_countMissed 39 = .ok (.iconst 3, 1) := by decide +kernel
theorem dX9_countMissed_40 : decode cX9_countMissed 40 = .ok (.if_icmp .lt 7, 3) := by decide +kernel
theorem dX9_countMissed_43 : decode cX9_countMissed 43 = .ok (.aload_n 0, 1) := by decide +kernel
theorem dX9_countMissed_44 : decode cX9_countMissed 44 = .ok (.invokevirtual 282, 3) := by decide +kernel
theorem dX9_countMissed_47 : decode cX9_countMissed 47 = .ok (.return_, 1) := by decide +kernel
theorem dX9_stopAll_0 : decode cX9_stopAll 0 = .ok (.aload_n 0, 1) := by decide +kernel
theorem dX9_stopAll_1 : decode cX9_stopAll 1 = .ok (.getfield 39, 3) := by decide +kernel
theorem dX9_stopAll_4 : decode cX9_stopAll 4 = .ok (.iconst 0, 1) := by decide +kernel
theorem dX9_stopAll_5 : decode cX9_stopAll 5 = .ok (.invokevirtual 300, 3) := by decide +kernel
theorem dX9_stopAll_8 : decode cX9_stopAll 8 = .ok (.aload_n 0, 1) := by decide +kernel
theorem dX9_stopAll_9 : decode cX9_stopAll 9 = .ok (.iconst 1, 1) := by decide +kernel
theorem dX9_stopAll_10 : decode cX9_stopAll 10 = .ok (.putfield 291, 3) := by decide +kernel
theorem dX9_stopAll_13 : decode cX9_stopAll 13 = .ok (.return_, 1) := by decide +kernel
theorem dX9_doRungs_0 : decode cX9_doRungs 0 = .ok (.iconst 0, 1) := by decide +kernel
theorem dX9_doRungs_1 : decode cX9_doRungs 1 = .ok (.istore_n 3, 1) := by decide +kernel
theorem dX9_doRungs_2 : decode cX9_doRungs 2 = .ok (.iconst 0, 1) := by decide +kernel
theorem dX9_doRungs_3 : decode cX9_doRungs 3 = .ok (.istore 4, 2) := by decide +kernel
theorem dX9_doRungs_5 : decode cX9_doRungs 5 = .ok (.iconst 0, 1) := by decide +kernel
theorem dX9_doRungs_6 : decode cX9_doRungs 6 = .ok (.istore 5, 2) := by decide +kernel
theorem dX9_doRungs_8 : decode cX9_doRungs 8 = .ok (.iload 5, 2) := by decide +kernel
theorem dX9_doRungs_10 : decode cX9_doRungs 10 = .ok (.aload_n 0, 1) := by decide +kernel
theorem dX9_doRungs_11 : decode cX9_doRungs 11 = .ok (.getfield 10, 3) := by decide +kernel
theorem dX9_doRungs_14 : decode cX9_doRungs 14 = .ok (.getfield 79, 3) := by decide +kernel
theorem dX9_doRungs_17 : decode cX9_doRungs 17 = .ok (.if_icmp .ge 98, 3) := by decide +kernel
theorem dX9_doRungs_20 : decode cX9_doRungs 20 = .ok (.aload_n 0, 1) := by decide +kernel
theorem dX9_doRungs_21 : decode cX9_doRungs 21 = .ok (.getfield 10, 3) := by decide +kernel
theorem dX9_doRungs_24 : decode cX9_doRungs 24 = .ok (.getfield 85, 3) := by decide +kernel
theorem dX9_doRungs_27 : decode cX9_doRungs 27 = .ok (.iload 5, 2) := by decide +kernel
theorem dX9_doRungs_29 : decode cX9_doRungs 29 = .ok (.aaload, 1) := by decide +kernel
theorem dX9_doRungs_30 : decode cX9_doRungs 30 = .ok (.astore 6, 2) := by decide +kernel
theorem dX9_doRungs_32 : decode cX9_doRungs 32 = .ok (.aload 6, 2) := by decide +kernel
theorem dX9_doRungs_34 : decode cX9_doRungs 34 = .ok (.getfield 89, 3) := by decide +kernel
theorem dX9_doRungs_37 : decode cX9_doRungs 37 = .ok (.iload_n 1, 1) := by decide +kernel
theorem dX9_doRungs_38 : decode cX9_doRungs 38 = .ok (.if_icmp .ne 71, 3) := by decide +kernel
theorem dX9_doRungs_41 : decode cX9_doRungs 41 = .ok (.iload 5, 2) := by decide +kernel
theorem dX9_doRungs_43 : decode cX9_doRungs 43 = .ok (.iload 4, 2) := by decide +kernel
theorem dX9_doRungs_45 : decode cX9_doRungs 45 = .ok (.if_icmp .lt 64, 3) := by decide +kernel
theorem dX9_doRungs_48 : decode cX9_doRungs 48 = .ok (.iinc 3 1, 3) := by decide +kernel
theorem dX9_doRungs_51 : decode cX9_doRungs 51 = .ok (.iload_n 3, 1) := by decide +kernel
theorem dX9_doRungs_52 : decode cX9_doRungs 52 = .ok (.aload_n 0, 1) := by decide +kernel
theorem dX9_doRungs_53 : decode cX9_doRungs 53 = .ok (.getfield 48, 3) := by decide +kernel
theorem dX9_doRungs_56 : decode cX9_doRungs 56 = .ok (.iload_n 1, 1) := by decide +kernel
theorem dX9_doRungs_57 : decode cX9_doRungs 57 = .ok (.aaload, 1) := by decide +kernel
theorem dX9_doRungs_58 : decode cX9_doRungs 58 = .ok (.getfield 233, 3) := by decide +kernel
theorem dX9_doRungs_61 : decode cX9_doRungs 61 = .ok (.if_icmp .le 5, 3) := by decide +kernel
theorem dX9_doRungs_64 : decode cX9_doRungs 64 = .ok (.iload_n 3, 1) := by decide +kernel
theorem dX9_doRungs_65 : decode cX9_doRungs 65 = .ok (.ireturn, 1) := by decide +kernel
theorem dX9_doRungs_66 : decode cX9_doRungs 66 = .ok (.aload_n 0, 1) := by decide +kernel
theorem dX9_doRungs_67 : decode cX9_doRungs 67 = .ok (.iload 5, 2) := by decide +kernel
theorem dX9_doRungs_69 : decode cX9_doRungs 69 = .ok (.aload 6, 2) := by decide +kernel
theorem dX9_doRungs_71 : decode cX9_doRungs 71 = .ok (.invokevirtual 423, 3) := by decide +kernel
theorem dX9_doRungs_74 : decode cX9_doRungs 74 = .ok (.istore 7, 2) := by decide +kernel
theorem dX9_doRungs_76 : decode cX9_doRungs 76 = .ok (.aload_n 0, 1) := by decide +kernel
theorem dX9_doRungs_77 : decode cX9_doRungs 77 = .ok (.iload 5, 2) := by decide +kernel
theorem dX9_doRungs_79 : decode cX9_doRungs 79 = .ok (.aload 6, 2) := by decide +kernel
theorem dX9_doRungs_81 : decode cX9_doRungs 81 = .ok (.iload 7, 2) := by decide +kernel
theorem dX9_doRungs_83 : decode cX9_doRungs 83 = .ok (.iload_n 2, 1) := by decide +kernel
theorem dX9_doRungs_84 : decode cX9_doRungs 84 = .ok (.invokevirtual 427, 3) := by decide +kernel
theorem dX9_doRungs_87 : decode cX9_doRungs 87 = .ok (.aload 6, 2) := by decide +kernel
theorem dX9_doRungs_89 : decode cX9_doRungs 89 = .ok (.getfield 94, 3) := by decide +kernel
theorem dX9_doRungs_92 : decode cX9_doRungs 92 = .ok (.bipush 74, 2) := by decide +kernel
theorem dX9_doRungs_94 : decode cX9_doRungs 94 = .ok (.if_icmp .ne 15, 3) := by decide +kernel
theorem dX9_doRungs_97 : decode cX9_doRungs 97 = .ok (.iload 7, 2) := by decide +kernel
theorem dX9_doRungs_99 : decode cX9_doRungs 99 = .ok (.ifCond .eq 10, 3) := by decide +kernel
theorem dX9_doRungs_102 : decode cX9_doRungs 102 = .ok (.aload 6, 2) := by decide +kernel
theorem dX9_doRungs_104 : decode cX9_doRungs 104 = .ok (.getfield 101, 3) := by decide +kernel
theorem dX9_doRungs_107 : decode cX9_doRungs 107 = .ok (.istore 4, 2) := by decide +kernel
theorem dX9_doRungs_109 : decode cX9_doRungs 109 = .ok (.iinc 5 1, 3) := by decide +kernel
theorem dX9_doRungs_112 : decode cX9_doRungs 112 = .ok (.goto (-104), 3) := by decide +kernel
theorem dX9_doRungs_115 : decode cX9_doRungs 115 = .ok (.iload_n 3, 1) := by decide +kernel
theorem dX9_doRungs_116 : decode cX9_doRungs 116 = .ok (.ireturn, 1) := by decide +kernel
theorem dX9_lookAtContacts_0 : decode cX9_lookAtContacts 0 = .ok (.aload_n 0, 1) := by decide +kernel
theorem dX9_lookAtContacts_1 : decode cX9_lookAtContacts 1 = .ok (.invokevirtual 303, 3) := by decide +kernel
theorem dX9_lookAtContacts_4 : decode cX9_lookAtContacts 4 = .ok (.istore_n 3, 1) := by decide +kernel
theorem dX9_lookAtContacts_5 : decode cX9_lookAtContacts 5 = .ok (.iconst 1, 1) := by decide +kernel
theorem dX9_lookAtContacts_6 : decode cX9_lookAtContacts 6 = .ok (.istore 4, 2) := by decide +kernel
theorem dX9_lookAtContacts_8 : decode cX9_lookAtContacts 8 = .ok (.iconst 0, 1) := by decide +kernel
theorem dX9_lookAtContacts_9 : decode cX9_lookAtContacts 9 = .ok (.istore 5, 2) := by decide +kernel
theorem dX9_lookAtContacts_11 : decode cX9_lookAtContacts 11 = .ok (.iconst 0, 1) := by decide +kernel
theorem dX9_lookAtContacts_12 : decode cX9_lookAtContacts 12 = .ok (.istore 6, 2) := by decide +kernel
theorem dX9_lookAtContacts_14 : decode cX9_lookAtContacts 14 = .ok (.iload 6, 2) := by decide +kernel
theorem dX9_lookAtContacts_16 : decode cX9_lookAtContacts 16 = .ok (.aload_n 2, 1) := by decide +kernel
theorem dX9_lookAtContacts_17 : decode cX9_lookAtContacts 17 = .ok (.getfield 104, 3) := by decide +kernel
theorem dX9_lookAtContacts_20 : decode cX9_lookAtContacts 20 = .ok (.if_icmp .ge 81, 3) := by decide +kernel
theorem dX9_lookAtContacts_23 : decode cX9_lookAtContacts 23 = .ok (.iload_n 3, 1) := by decide +kernel
theorem dX9_lookAtContacts_24 : decode cX9_lookAtContacts 24 = .ok (.aload_n 2, 1) := by decide +kernel
theorem dX9_lookAtContacts_25 : decode cX9_lookAtContacts 25 = .ok (.getfield 122, 3) := by decide +kernel
theorem dX9_lookAtContacts_28 : decode cX9_lookAtContacts 28 = .ok (.iload 6, 2) := by decide +kernel
theorem dX9_lookAtContacts_30 : decode cX9_lookAtContacts 30 = .ok (.iaload, 1) := by decide +kernel
theorem dX9_lookAtContacts_31 : decode cX9_lookAtContacts 31 = .ok (.invokestatic 217, 3) := by decide +kernel
theorem dX9_lookAtContacts_34 : decode cX9_lookAtContacts 34 = .ok (.istore 7, 2) := by decide +kernel
theorem dX9_lookAtContacts_36 : decode cX9_lookAtContacts 36 = .ok (.aload_n 0, 1) := by decide +kernel
theorem dX9_lookAtContacts_37 : decode cX9_lookAtContacts 37 = .ok (.getfield 22, 3) := by decide +kernel
theorem dX9_lookAtContacts_40 : decode cX9_lookAtContacts 40 = .ok (.getfield 372, 3) := by decide +kernel
theorem dX9_lookAtContacts_43 : decode cX9_lookAtContacts 43 = .ok (.iload_n 1, 1) := by decide +kernel
theorem dX9_lookAtContacts_44 : decode cX9_lookAtContacts 44 = .ok (.iaload, 1) := by decide +kernel
theorem dX9_lookAtContacts_45 : decode cX9_lookAtContacts 45 = .ok (.iload 6, 2) := by decide +kernel
theorem dX9_lookAtContacts_47 : decode cX9_lookAtContacts 47 = .ok (.invokestatic 217, 3) := by decide +kernel
theorem dX9_lookAtContacts_50 : decode cX9_lookAtContacts 50 = .ok (.istore 8, 2) := by decide +kernel
theorem dX9_lookAtContacts_52 : decode cX9_lookAtContacts 52 = .ok (.aload_n 2, 1) := by decide +kernel
theorem dX9_lookAtContacts_53 : decode cX9_lookAtContacts 53 = .ok (.getfield 118, 3) := by decide +kernel
theorem dX9_lookAtContacts_56 : decode cX9_lookAtContacts 56 = .ok (.iload 6, 2) := by decide +kernel
theorem dX9_lookAtContacts_58 : decode cX9_lookAtContacts 58 = .ok (.caload, 1) := by decide +kernel
theorem dX9_lookAtContacts_59 : decode cX9_lookAtContacts 59 = .ok (.iload 7, 2) := by decide +kernel
theorem dX9_lookAtContacts_61 : decode cX9_lookAtContacts 61 = .ok (.iload 8, 2) := by decide +kernel
theorem dX9_lookAtContacts_63 : decode cX9_lookAtContacts 63 = .ok (.invokestatic 431, 3) := by decide +kernel
theorem dX9_lookAtContacts_66 : decode cX9_lookAtContacts 66 = .ok (.ifCond .eq 12, 3) := by decide +kernel
theorem dX9_lookAtContacts_69 : decode cX9_lookAtContacts 69 = .ok (.iload 4, 2) := by decide +kernel
theorem dX9_lookAtContacts_71 : decode cX9_lookAtContacts 71 = .ok (.ifCond .eq 7, 3) := by decide +kernel
theorem dX9_lookAtContacts_74 : decode cX9_lookAtContacts 74 = .ok (.iconst 1, 1) := by decide +kernel
theorem dX9_lookAtContacts_75 : decode cX9_lookAtContacts 75 = .ok (.goto 4, 3) := by decide +kernel
theorem dX9_lookAtContacts_78 : decode cX9_lookAtContacts 78 = .ok (.iconst 0, 1) := by decide +kernel
theorem dX9_lookAtContacts_79 : decode cX9_lookAtContacts 79 = .ok (.istore 4, 2) := by decide +kernel
theorem dX9_lookAtContacts_81 : decode cX9_lookAtContacts 81 = .ok (.iload 7, 2) := by decide +kernel
theorem dX9_lookAtContacts_83 : decode cX9_lookAtContacts 83 = .ok (.ifCond .eq 12, 3) := by decide +kernel
theorem dX9_lookAtContacts_86 : decode cX9_lookAtContacts 86 = .ok (.iload 5, 2) := by decide +kernel
theorem dX9_lookAtContacts_88 : decode cX9_lookAtContacts 88 = .ok (.iconst 1, 1) := by decide +kernel
theorem dX9_lookAtContacts_89 : decode cX9_lookAtContacts 89 = .ok (.iload 6, 2) := by decide +kernel
theorem dX9_lookAtContacts_91 : decode cX9_lookAtContacts 91 = .ok (.ishl, 1) := by decide +kernel
theorem dX9_lookAtContacts_92 : decode cX9_lookAtContacts 92 = .ok (.ior, 1) := by decide +kernel
theorem dX9_lookAtContacts_93 : decode cX9_lookAtContacts 93 = .ok (.istore 5, 2) := by decide +kernel
theorem dX9_lookAtContacts_95 : decode cX9_lookAtContacts 95 = .ok (.iinc 6 1, 3) := by decide +kernel
theorem dX9_lookAtContacts_98 : decode cX9_lookAtContacts 98 = .ok (.goto (-84), 3) := by decide +kernel
theorem dX9_lookAtContacts_101 : decode cX9_lookAtContacts 101 = .ok (.aload_n 0, 1) := by decide +kernel
theorem dX9_lookAtContacts_102 : decode cX9_lookAtContacts 102 = .ok (.getfield 22, 3) := by decide +kernel
theorem dX9_lookAtContacts_105 : decode cX9_lookAtContacts 105 = .ok (.getfield 372, 3) := by decide +kernel
theorem dX9_lookAtContacts_108 : decode cX9_lookAtContacts 108 = .ok (.iload_n 1, 1) := by decide +kernel
theorem dX9_lookAtContacts_109 : decode cX9_lookAtContacts 109 = .ok (.iload 5, 2) := by decide +kernel
theorem dX9_lookAtContacts_111 : decode cX9_lookAtContacts 111 = .ok (.iastore, 1) := by decide +kernel
theorem dX9_lookAtContacts_112 : decode cX9_lookAtContacts 112 = .ok (.iload 4, 2) := by decide +kernel
theorem dX9_lookAtContacts_114 : decode cX9_lookAtContacts 114 = .ok (.ireturn, 1) := by decide +kernel
theorem dX9_doesHold_0 : decode cX9_doesHold 0 = .ok (.iload_n 0, 1) := by decide +kernel
theorem dX9_doesHold_1 : decode cX9_doesHold 1 = .ok (.lookupswitch 61 #[(48, 37), (49, 35), (117, 47)], 35) := by decide +kernel
theorem dX9_doesHold_36 : decode cX9_doesHold 36 = .ok (.iload_n 1, 1) := by decide +kernel
theorem dX9_doesHold_37 : decode cX9_doesHold 37 = .ok (.ireturn, 1) := by decide +kernel
theorem dX9_doesHold_38 : decode cX9_doesHold 38 = .ok (.iload_n 1, 1) := by decide +kernel
theorem dX9_doesHold_39 : decode cX9_doesHold 39 = .ok (.ifCond .ne 7, 3) := by decide +kernel
theorem dX9_doesHold_42 : decode cX9_doesHold 42 = .ok (.iconst 1, 1) := by decide +kernel
theorem dX9_doesHold_43 : decode cX9_doesHold 43 = .ok (.goto 4, 3) := by decide +kernel
theorem dX9_doesHold_46 : decode cX9_doesHold 46 = .ok (.iconst 0, 1) := by decide +kernel
theorem dX9_doesHold_47 : decode cX9_doesHold 47 = .ok (.ireturn, 1) := by decide +kernel
theorem dX9_doesHold_48 : decode cX9_doesHold 48 = .ok (.iload_n 1, 1) := by decide +kernel
theorem dX9_doesHold_49 : decode cX9_doesHold 49 = .ok (.ifCond .eq 11, 3) := by decide +kernel
theorem dX9_doesHold_52 : decode cX9_doesHold 52 = .ok (.iload_n 2, 1) := by decide +kernel
theorem dX9_doesHold_53 : decode cX9_doesHold 53 = .ok (.ifCond .ne 7, 3) := by decide +kernel
theorem dX9_doesHold_56 : decode cX9_doesHold 56 = .ok (.iconst 1, 1) := by decide +kernel
theorem dX9_doesHold_57 : decode cX9_doesHold 57 = .ok (.goto 4, 3) := by decide +kernel
theorem dX9_doesHold_60 : decode cX9_doesHold 60 = .ok (.iconst 0, 1) := by decide +kernel
theorem dX9_doesHold_61 : decode cX9_doesHold 61 = .ok (.ireturn, 1) := by decide +kernel
theorem dX9_doesHold_62 : decode cX9_doesHold 62 = .ok (.iload_n 1, 1) := by decide +kernel
theorem dX9_doesHold_63 : decode cX9_doesHold 63 = .ok (.ifCond .ne 11, 3) := by decide +kernel
theorem dX9_doesHold_66 : decode cX9_doesHold 66 = .ok (.iload_n 2, 1) := by decide +kernel
theorem dX9_doesHold_67 : decode cX9_doesHold 67 = .ok (.ifCond .eq 7, 3) := by decide +kernel
theorem dX9_doesHold_70 : decode cX9_doesHold 70 = .ok (.iconst 1, 1) := by decide +kernel
theorem dX9_doesHold_71 : decode cX9_doesHold 71 = .ok (.goto 4, 3) := by decide +kernel
theorem dX9_doesHold_74 : decode cX9_doesHold 74 = .ok (.iconst 0, 1) := by decide +kernel
theorem dX9_doesHold_75 : decode cX9_doesHold 75 = .ok (.ireturn, 1) := by decide +kernel
theorem dX9_doRung_0 : decode cX9_doRung 0 = .ok (.aload_n 2, 1) := by decide +kernel
theorem dX9_doRung_1 : decode cX9_doRung 1 = .ok (.getfield 94, 3) := by decide +kernel
theorem dX9_doRung_4 : decode cX9_doRung 4 = .ok (.lookupswitch 172 #[(60, 75), (61, 60), (65, 134), (67, 122), (82, 122), (84, 122)], 60) := by decide +kernel
theorem dX9_doRung_64 : decode cX9_doRung 64 = .ok (.aload_n 0, 1) := by decide +kernel
theorem dX9_doRung_65 : decode cX9_doRung 65 = .ok (.getfield 22, 3) := by decide +kernel
theorem dX9_doRung_68 : decode cX9_doRung 68 = .ok (.aload_n 2, 1) := by decide +kernel
theorem dX9_doRung_69 : decode cX9_doRung 69 = .ok (.getfield 98, 3) := by decide +kernel
theorem dX9_doRung_72 : decode cX9_doRung 72 = .ok (.iload_n 3, 1) := by decide +kernel
theorem dX9_doRung_73 : decode cX9_doRung 73 = .ok (.invokevirtual 435, 3) := by decide +kernel
theorem dX9_doRung_76 : decode cX9_doRung 76 = .ok (.goto 109, 3) := by decide +kernel
theorem dX9_doRung_79 : decode cX9_doRung 79 = .ok (.aload_n 0, 1) := by decide +kernel
theorem dX9_doRung_80 : decode cX9_doRung 80 = .ok (.getfield 22, 3) := by decide +kernel
theorem dX9_doRung_83 : decode cX9_doRung 83 = .ok (.aload_n 2, 1) := by decide +kernel
theorem dX9_doRung_84 : decode cX9_doRung 84 = .ok (.getfield 98, 3) := by decide +kernel
theorem dX9_doRung_87 : decode cX9_doRung 87 = .ok (.iload_n 3, 1) := by decide +kernel
theorem dX9_doRung_88 : decode cX9_doRung 88 = .ok (.ifCond .eq 31, 3) := by decide +kernel
theorem dX9_doRung_91 : decode cX9_doRung 91 = .ok (.aload_n 0, 1) := by decide +kernel
theorem dX9_doRung_92 : decode cX9_doRung 92 = .ok (.getfield 22, 3) := by decide +kernel
theorem dX9_doRung_95 : decode cX9_doRung 95 = .ok (.getfield 309, 3) := by decide +kernel
theorem dX9_doRung_98 : decode cX9_doRung 98 = .ok (.aload_n 2, 1) := by decide +kernel
theorem dX9_doRung_99 : decode cX9_doRung 99 = .ok (.getfield 101, 3) := by decide +kernel
theorem dX9_doRung_102 : decode cX9_doRung 102 = .ok (.iaload, 1) := by decide +kernel
theorem dX9_doRung_103 : decode cX9_doRung 103 = .ok (.aload_n 0, 1) := by decide +kernel
theorem dX9_doRung_104 : decode cX9_doRung 104 = .ok (.getfield 22, 3) := by decide +kernel
theorem dX9_doRung_107 : decode cX9_doRung 107 = .ok (.getfield 309, 3) := by decide +kernel
theorem dX9_doRung_110 : decode cX9_doRung 110 = .ok (.iconst 0, 1) := by decide +kernel
theorem dX9_doRung_111 : decode cX9_doRung 111 = .ok (.iaload, 1) := by decide +kernel
theorem dX9_doRung_112 : decode cX9_doRung 112 = .ok (.if_icmp .ge 7, 3) := by decide +kernel
theorem dX9_doRung_115 : decode cX9_doRung 115 = .ok (.iconst 1, 1) := by decide +kernel
theorem dX9_doRung_116 : decode cX9_doRung 116 = .ok (.goto 4, 3) := by decide +kernel
theorem dX9_doRung_119 : decode cX9_doRung 119 = .ok (.iconst 0, 1) := by decide +kernel
theorem dX9_doRung_120 : decode cX9_doRung 120 = .ok (.invokevirtual 435, 3) := by decide +kernel
theorem dX9_doRung_123 : decode cX9_doRung 123 = .ok (.goto 62, 3) := by decide +kernel
theorem dX9_doRung_126 : decode cX9_doRung 126 = .ok (.aload_n 0, 1) := by decide +kernel
theorem dX9_doRung_127 : decode cX9_doRung 127 = .ok (.iload_n 1, 1) := by decide +kernel
theorem dX9_doRung_128 : decode cX9_doRung 128 = .ok (.aload_n 2, 1) := by decide +kernel
theorem dX9_doRung_129 : decode cX9_doRung 129 = .ok (.iload_n 3, 1) := by decide +kernel
theorem dX9_doRung_130 : decode cX9_doRung 130 = .ok (.iload 4, 2) := by decide +kernel
theorem dX9_doRung_132 : decode cX9_doRung 132 = .ok (.invokevirtual 438, 3) := by decide +kernel
theorem dX9_doRung_135 : decode cX9_doRung 135 = .ok (.goto 50, 3) := by decide +kernel
theorem dX9_doRung_138 : decode cX9_doRung 138 = .ok (.iload_n 3, 1) := by decide +kernel
theorem dX9_doRung_139 : decode cX9_doRung 139 = .ok (.ifCond .eq 20, 3) := by decide +kernel
theorem dX9_doRung_142 : decode cX9_doRung 142 = .ok (.aload_n 0, 1) := by decide +kernel
theorem dX9_doRung_143 : decode cX9_doRung 143 = .ok (.getfield 22, 3) := by decide +kernel
theorem dX9_doRung_146 : decode cX9_doRung 146 = .ok (.getfield 249, 3) := by decide +kernel
theorem dX9_doRung_149 : decode cX9_doRung 149 = .ok (.aload_n 2, 1) := by decide +kernel
theorem dX9_doRung_150 : decode cX9_doRung 150 = .ok (.getfield 98, 3) := by decide +kernel
theorem dX9_doRung_153 : decode cX9_doRung 153 = .ok (.invokevirtual 441, 3) := by decide +kernel
theorem dX9_doRung_156 : decode cX9_doRung 156 = .ok (.goto 29, 3) := by decide +kernel
theorem dX9_doRung_159 : decode cX9_doRung 159 = .ok (.aload_n 0, 1) := by decide +kernel
theorem dX9_doRung_160 : decode cX9_doRung 160 = .ok (.getfield 22, 3) := by decide +kernel
theorem dX9_doRung_163 : decode cX9_doRung 163 = .ok (.getfield 249, 3) := by decide +kernel
theorem dX9_doRung_166 : decode cX9_doRung 166 = .ok (.aload_n 2, 1) := by decide +kernel
theorem dX9_doRung_167 : decode cX9_doRung 167 = .ok (.getfield 98, 3) := by decide +kernel
theorem dX9_doRung_170 : decode cX9_doRung 170 = .ok (.invokevirtual 444, 3) := by decide +kernel
theorem dX9_doRung_173 : decode cX9_doRung 173 = .ok (.goto 12, 3) := by decide +kernel
theorem dX9_doRung_176 : decode cX9_doRung 176 = .ok (.iload_n 3, 1) := by decide +kernel
theorem dX9_doRung_177 : decode cX9_doRung 177 = .ok (.ifCond .eq 8, 3) := by decide +kernel
theorem dX9_doRung_180 : decode cX9_doRung 180 = .ok (.aload_n 0, 1) := by decide +kernel
theorem dX9_doRung_181 : decode cX9_doRung 181 = .ok (.aload_n 2, 1) := by decide +kernel
theorem dX9_doRung_182 : decode cX9_doRung 182 = .ok (.invokevirtual 447, 3) := by decide +kernel
theorem dX9_doRung_185 : decode cX9_doRung 185 = .ok (.return_, 1) := by decide +kernel
theorem dX9_doIfHeld_0 : decode cX9_doIfHeld 0 = .ok (.aload_n 1, 1) := by decide +kernel
theorem dX9_doIfHeld_1 : decode cX9_doIfHeld 1 = .ok (.getfield 94, 3) := by decide +kernel
theorem dX9_doIfHeld_4 : decode cX9_doIfHeld 4 = .ok (.lookupswitch 162 #[(43, 132), (90, 82), (107, 113), (114, 67), (115, 52)], 52) := by decide +kernel
theorem dX9_doIfHeld_56 : decode cX9_doIfHeld 56 = .ok (.aload_n 0, 1) := by decide +kernel
theorem dX9_doIfHeld_57 : decode cX9_doIfHeld 57 = .ok (.getfield 22, 3) := by decide +kernel
theorem dX9_doIfHeld_60 : decode cX9_doIfHeld 60 = .ok (.aload_n 1, 1) := by decide +kernel
theorem dX9_doIfHeld_61 : decode cX9_doIfHeld 61 = .ok (.getfield 98, 3) := by decide +kernel
theorem dX9_doIfHeld_64 : decode cX9_doIfHeld 64 = .ok (.iconst 1, 1) := by decide +kernel
theorem dX9_doIfHeld_65 : decode cX9_doIfHeld 65 = .ok (.invokevirtual 435, 3) := by decide +kernel
theorem dX9_doIfHeld_68 : decode cX9_doIfHeld 68 = .ok (.goto 98, 3) := by decide +kernel
theorem dX9_doIfHeld_71 : decode cX9_doIfHeld 71 = .ok (.aload_n 0, 1) := by decide +kernel
theorem dX9_doIfHeld_72 : decode cX9_doIfHeld 72 = .ok (.getfield 22, 3) := by decide +kernel
theorem dX9_doIfHeld_75 : decode cX9_doIfHeld 75 = .ok (.aload_n 1, 1) := by decide +kernel
theorem dX9_doIfHeld_76 : decode cX9_doIfHeld 76 = .ok (.getfield 98, 3) := by decide +kernel
theorem dX9_doIfHeld_79 : decode cX9_doIfHeld 79 = .ok (.iconst 0, 1) := by decide +kernel
theorem dX9_doIfHeld_80 : decode cX9_doIfHeld 80 = .ok (.invokevirtual 435, 3) := by decide +kernel
theorem dX9_doIfHeld_83 : decode cX9_doIfHeld 83 = .ok (.goto 83, 3) := by decide +kernel
theorem dX9_doIfHeld_86 : decode cX9_doIfHeld 86 = .ok (.aload_n 0, 1) := by decide +kernel
theorem dX9_doIfHeld_87 : decode cX9_doIfHeld 87 = .ok (.getfield 22, 3) := by decide +kernel
theorem dX9_doIfHeld_90 : decode cX9_doIfHeld 90 = .ok (.getfield 312, 3) := by decide +kernel
theorem dX9_doIfHeld_93 : decode cX9_doIfHeld 93 = .ok (.aload_n 1, 1) := by decide +kernel
theorem dX9_doIfHeld_94 : decode cX9_doIfHeld 94 = .ok (.getfield 98, 3) := by decide +kernel
theorem dX9_doIfHeld_97 : decode cX9_doIfHeld 97 = .ok (.iconst 0, 1) := by decide +kernel
theorem dX9_doIfHeld_98 : decode cX9_doIfHeld 98 = .ok (.iastore, 1) := by decide +kernel
theorem dX9_doIfHeld_99 : decode cX9_doIfHeld 99 = .ok (.aload_n 0, 1) := by decide +kernel
theorem dX9_doIfHeld_100 : decode cX9_doIfHeld 100 = .ok (.getfield 22, 3) := by decide +kernel
theorem dX9_doIfHeld_103 : decode cX9_doIfHeld 103 = .ok (.bipush 24, 2) := by decide +kernel
theorem dX9_doIfHeld_105 : decode cX9_doIfHeld 105 = .ok (.aload_n 1, 1) := by decide +kernel
theorem dX9_doIfHeld_106 : decode cX9_doIfHeld 106 = .ok (.getfield 98, 3) := by decide +kernel
theorem dX9_doIfHeld_109 : decode cX9_doIfHeld 109 = .ok (.iadd, 1) := by decide +kernel
theorem dX9_doIfHeld_110 : decode cX9_doIfHeld 110 = .ok (.iconst 0, 1) := by decide +kernel
theorem dX9_doIfHeld_111 : decode cX9_doIfHeld 111 = .ok (.invokevirtual 435, 3) := by decide +kernel
theorem dX9_doIfHeld_114 : decode cX9_doIfHeld 114 = .ok (.goto 52, 3) := by decide +kernel
theorem dX9_doIfHeld_117 : decode cX9_doIfHeld 117 = .ok (.aload_n 0, 1) := by decide +kernel
theorem dX9_doIfHeld_118 : decode cX9_doIfHeld 118 = .ok (.getfield 22, 3) := by decide +kernel
theorem dX9_doIfHeld_121 : decode cX9_doIfHeld 121 = .ok (.getfield 309, 3) := by decide +kernel
theorem dX9_doIfHeld_124 : decode cX9_doIfHeld 124 = .ok (.aload_n 1, 1) := by decide +kernel
theorem dX9_doIfHeld_125 : decode cX9_doIfHeld 125 = .ok (.getfield 98, 3) := by decide +kernel
theorem dX9_doIfHeld_128 : decode cX9_doIfHeld 128 = .ok (.aload_n 1, 1) := by decide +kernel
theorem dX9_doIfHeld_129 : decode cX9_doIfHeld 129 = .ok (.getfield 101, 3) := by decide +kernel
theorem dX9_doIfHeld_132 : decode cX9_doIfHeld 132 = .ok (.iastore, 1) := by decide +kernel
theorem dX9_doIfHeld_133 : decode cX9_doIfHeld 133 = .ok (.goto 33, 3) := by decide +kernel
theorem dX9_doIfHeld_136 : decode cX9_doIfHeld 136 = .ok (.aload_n 0, 1) := by decide +kernel
theorem dX9_doIfHeld_137 : decode cX9_doIfHeld 137 = .ok (.getfield 22, 3) := by decide +kernel
theorem dX9_doIfHeld_140 : decode cX9_doIfHeld 140 = .ok (.getfield 309, 3) := by decide +kernel
theorem dX9_doIfHeld_143 : decode cX9_doIfHeld 143 = .ok (.aload_n 1, 1) := by decide +kernel
theorem dX9_doIfHeld_144 : decode cX9_doIfHeld 144 = .ok (.getfield 98, 3) := by decide +kernel
theorem dX9_doIfHeld_147 : decode cX9_doIfHeld 147 = .ok (.dup2, 1) := by decide +kernel
theorem dX9_doIfHeld_148 : decode cX9_doIfHeld 148 = .ok (.iaload, 1) := by decide +kernel
theorem dX9_doIfHeld_149 : decode cX9_doIfHeld 149 = .ok (.aload_n 0, 1) := by decide +kernel
theorem dX9_doIfHeld_150 : decode cX9_doIfHeld 150 = .ok (.getfield 22, 3) := by decide +kernel
theorem dX9_doIfHeld_153 : decode cX9_doIfHeld 153 = .ok (.getfield 309, 3) := by decide +kernel
theorem dX9_doIfHeld_156 : decode cX9_doIfHeld 156 = .ok (.aload_n 1, 1) := by decide +kernel
theorem dX9_doIfHeld_157 : decode cX9_doIfHeld 157 = .ok (.getfield 101, 3) := by decide +kernel
theorem dX9_doIfHeld_160 : decode cX9_doIfHeld 160 = .ok (.iaload, 1) := by decide +kernel
theorem dX9_doIfHeld_161 : decode cX9_doIfHeld 161 = .ok (.iadd, 1) := by decide +kernel
theorem dX9_doIfHeld_162 : decode cX9_doIfHeld 162 = .ok (.iastore, 1) := by decide +kernel
theorem dX9_doIfHeld_163 : decode cX9_doIfHeld 163 = .ok (.goto 3, 3) := by decide +kernel
theorem dX9_doIfHeld_166 : decode cX9_doIfHeld 166 = .ok (.return_, 1) := by decide +kernel
theorem dX9_runTimer_0 : decode cX9_runTimer 0 = .ok (.aload_n 0, 1) := by decide +kernel
theorem dX9_runTimer_1 : decode cX9_runTimer 1 = .ok (.getfield 22, 3) := by decide +kernel
theorem dX9_runTimer_4 : decode cX9_runTimer 4 = .ok (.getfield 312, 3) := by decide +kernel
theorem dX9_runTimer_7 : decode cX9_runTimer 7 = .ok (.aload_n 2, 1) := by decide +kernel
theorem dX9_runTimer_8 : decode cX9_runTimer 8 = .ok (.getfield 98, 3) := by decide +kernel
theorem dX9_runTimer_11 : decode cX9_runTimer 11 = .ok (.iaload, 1) := by decide +kernel
theorem dX9_runTimer_12 : decode cX9_runTimer 12 = .ok (.istore 5, 2) := by decide +kernel
theorem dX9_runTimer_14 : decode cX9_runTimer 14 = .ok (.aload_n 2, 1) := by decide +kernel
theorem dX9_runTimer_15 : decode cX9_runTimer 15 = .ok (.getfield 94, 3) := by decide +kernel
theorem dX9_runTimer_18 : decode cX9_runTimer 18 = .ok (.bipush 67, 2) := by decide +kernel
theorem dX9_runTimer_20 : decode cX9_runTimer 20 = .ok (.if_icmp .ne 33, 3) := by decide +kernel
theorem dX9_runTimer_23 : decode cX9_runTimer 23 = .ok (.iload_n 3, 1) := by decide +kernel
theorem dX9_runTimer_24 : decode cX9_runTimer 24 = .ok (.ifCond .eq 17, 3) := by decide +kernel
theorem dX9_runTimer_27 : decode cX9_runTimer 27 = .ok (.aload_n 0, 1) := by decide +kernel
theorem dX9_runTimer_28 : decode cX9_runTimer 28 = .ok (.getfield 22, 3) := by decide +kernel
theorem dX9_runTimer_31 : decode cX9_runTimer 31 = .ok (.iload_n 1, 1) := by decide +kernel
theorem dX9_runTimer_32 : decode cX9_runTimer 32 = .ok (.invokevirtual 375, 3) := by decide +kernel
theorem dX9_runTimer_35 : decode cX9_runTimer 35 = .ok (.ifCond .ne 6, 3) := by decide +kernel
theorem dX9_runTimer_38 : decode cX9_runTimer 38 = .ok (.iinc 5 1, 3) := by decide +kernel
theorem dX9_runTimer_41 : decode cX9_runTimer 41 = .ok (.aload_n 0, 1) := by decide +kernel
theorem dX9_runTimer_42 : decode cX9_runTimer 42 = .ok (.getfield 22, 3) := by decide +kernel
theorem dX9_runTimer_45 : decode cX9_runTimer 45 = .ok (.iload_n 1, 1) := by decide +kernel
theorem dX9_runTimer_46 : decode cX9_runTimer 46 = .ok (.iload_n 3, 1) := by decide +kernel
theorem dX9_runTimer_47 : decode cX9_runTimer 47 = .ok (.invokevirtual 378, 3) := by decide +kernel
theorem dX9_runTimer_50 : decode cX9_runTimer 50 = .ok (.goto 29, 3) := by decide +kernel
theorem dX9_runTimer_53 : decode cX9_runTimer 53 = .ok (.iload_n 3, 1) := by decide +kernel
theorem dX9_runTimer_54 : decode cX9_runTimer 54 = .ok (.ifCond .eq 13, 3) := by decide +kernel
theorem dX9_runTimer_57 : decode cX9_runTimer 57 = .ok (.iload 5, 2) := by decide +kernel
theorem dX9_runTimer_59 : decode cX9_runTimer 59 = .ok (.iload 4, 2) := by decide +kernel
theorem dX9_runTimer_61 : decode cX9_runTimer 61 = .ok (.iadd, 1) := by decide +kernel
theorem dX9_runTimer_62 : decode cX9_runTimer 62 = .ok (.istore 5, 2) := by decide +kernel
theorem dX9_runTimer_64 : decode cX9_runTimer 64 = .ok (.goto 15, 3) := by decide +kernel
theorem dX9_runTimer_67 : decode cX9_runTimer 67 = .ok (.aload_n 2, 1) := by decide +kernel
theorem dX9_runTimer_68 : decode cX9_runTimer 68 = .ok (.getfield 94, 3) := by decide +kernel
theorem dX9_runTimer_71 : decode cX9_runTimer 71 = .ok (.bipush 84, 2) := by decide +kernel
theorem dX9_runTimer_73 : decode cX9_runTimer 73 = .ok (.if_icmp .ne 6, 3) := by decide +kernel
theorem dX9_runTimer_76 : decode cX9_runTimer 76 = .ok (.iconst 0, 1) := by decide +kernel
theorem dX9_runTimer_77 : decode cX9_runTimer 77 = .ok (.istore 5, 2) := by decide +kernel
theorem dX9_runTimer_79 : decode cX9_runTimer 79 = .ok (.iload 5, 2) := by decide +kernel
theorem dX9_runTimer_81 : decode cX9_runTimer 81 = .ok (.aload_n 2, 1) := by decide +kernel
theorem dX9_runTimer_82 : decode cX9_runTimer 82 = .ok (.getfield 101, 3) := by decide +kernel
theorem dX9_runTimer_85 : decode cX9_runTimer 85 = .ok (.invokestatic 451, 3) := by decide +kernel
theorem dX9_runTimer_88 : decode cX9_runTimer 88 = .ok (.istore 5, 2) := by decide +kernel
theorem dX9_runTimer_90 : decode cX9_runTimer 90 = .ok (.aload_n 0, 1) := by decide +kernel
theorem dX9_runTimer_91 : decode cX9_runTimer 91 = .ok (.getfield 22, 3) := by decide +kernel
theorem dX9_runTimer_94 : decode cX9_runTimer 94 = .ok (.getfield 312, 3) := by decide +kernel
theorem dX9_runTimer_97 : decode cX9_runTimer 97 = .ok (.aload_n 2, 1) := by decide +kernel
theorem dX9_runTimer_98 : decode cX9_runTimer 98 = .ok (.getfield 98, 3) := by decide +kernel
theorem dX9_runTimer_101 : decode cX9_runTimer 101 = .ok (.iload 5, 2) := by decide +kernel
theorem dX9_runTimer_103 : decode cX9_runTimer 103 = .ok (.iastore, 1) := by decide +kernel
theorem dX9_runTimer_104 : decode cX9_runTimer 104 = .ok (.aload_n 0, 1) := by decide +kernel
theorem dX9_runTimer_105 : decode cX9_runTimer 105 = .ok (.getfield 22, 3) := by decide +kernel
theorem dX9_runTimer_108 : decode cX9_runTimer 108 = .ok (.bipush 24, 2) := by decide +kernel
theorem dX9_runTimer_110 : decode cX9_runTimer 110 = .ok (.aload_n 2, 1) := by decide +kernel
theorem dX9_runTimer_111 : decode cX9_runTimer 111 = .ok (.getfield 98, 3) := by decide +kernel
theorem dX9_runTimer_114 : decode cX9_runTimer 114 = .ok (.iadd, 1) := by decide +kernel
theorem dX9_runTimer_115 : decode cX9_runTimer 115 = .ok (.iload 5, 2) := by decide +kernel
theorem dX9_runTimer_117 : decode cX9_runTimer 117 = .ok (.aload_n 2, 1) := by decide +kernel
theorem dX9_runTimer_118 : decode cX9_runTimer 118 = .ok (.getfield 101, 3) := by decide +kernel
theorem dX9_runTimer_121 : decode cX9_runTimer 121 = .ok (.if_icmp .lt 7, 3) := by decide +kernel
theorem dX9_runTimer_124 : decode cX9_runTimer 124 = .ok (.iconst 1, 1) := by decide +kernel
theorem dX9_runTimer_125 : decode cX9_runTimer 125 = .ok (.goto 4, 3) := by decide +kernel
theorem dX9_runTimer_128 : decode cX9_runTimer 128 = .ok (.iconst 0, 1) := by decide +kernel
theorem dX9_runTimer_129 : decode cX9_runTimer 129 = .ok (.invokevirtual 435, 3) := by decide +kernel
theorem dX9_runTimer_132 : decode cX9_runTimer 132 = .ok (.return_, 1) := by decide +kernel
theorem dX9_runChart_0 : decode cX9_runChart 0 = .ok (.aload_n 0, 1) := by decide +kernel
theorem dX9_runChart_1 : decode cX9_runChart 1 = .ok (.getfield 22, 3) := by decide +kernel
theorem dX9_runChart_4 : decode cX9_runChart 4 = .ok (.getfield 194, 3) := by decide +kernel
theorem dX9_runChart_7 : decode cX9_runChart 7 = .ok (.istore_n 2, 1) := by decide +kernel
theorem dX9_runChart_8 : decode cX9_runChart 8 = .ok (.aload_n 0, 1) := by decide +kernel
theorem dX9_runChart_9 : decode cX9_runChart 9 = .ok (.invokevirtual 456, 3) := by decide +kernel
theorem dX9_runChart_12 : decode cX9_runChart 12 = .ok (.istore_n 3, 1) := by decide +kernel
theorem dX9_runChart_13 : decode cX9_runChart 13 = .ok (.iload_n 2, 1) := by decide +kernel
theorem dX9_runChart_14 : decode cX9_runChart 14 = .ok (.aload_n 0, 1) := by decide +kernel
theorem dX9_runChart_15 : decode cX9_runChart 15 = .ok (.getfield 22, 3) := by decide +kernel
theorem dX9_runChart_18 : decode cX9_runChart 18 = .ok (.getfield 194, 3) := by decide +kernel
theorem dX9_runChart_21 : decode cX9_runChart 21 = .ok (.iconst (-1), 1) := by decide +kernel
theorem dX9_runChart_22 : decode cX9_runChart 22 = .ok (.ixor, 1) := by decide +kernel
theorem dX9_runChart_23 : decode cX9_runChart 23 = .ok (.iload_n 3, 1) := by decide +kernel
theorem dX9_runChart_24 : decode cX9_runChart 24 = .ok (.ior, 1) := by decide +kernel
theorem dX9_runChart_25 : decode cX9_runChart 25 = .ok (.iand, 1) := by decide +kernel
theorem dX9_runChart_26 : decode cX9_runChart 26 = .ok (.istore 4, 2) := by decide +kernel
theorem dX9_runChart_28 : decode cX9_runChart 28 = .ok (.aload_n 0, 1) := by decide +kernel
theorem dX9_runChart_29 : decode cX9_runChart 29 = .ok (.getfield 22, 3) := by decide +kernel
theorem dX9_runChart_32 : decode cX9_runChart 32 = .ok (.getfield 194, 3) := by decide +kernel
theorem dX9_runChart_35 : decode cX9_runChart 35 = .ok (.iload_n 3, 1) := by decide +kernel
theorem dX9_runChart_36 : decode cX9_runChart 36 = .ok (.iand, 1) := by decide +kernel
theorem dX9_runChart_37 : decode cX9_runChart 37 = .ok (.istore 5, 2) := by decide +kernel
theorem dX9_runChart_39 : decode cX9_runChart 39 = .ok (.iconst 0, 1) := by decide +kernel
theorem dX9_runChart_40 : decode cX9_runChart 40 = .ok (.istore 6, 2) := by decide +kernel
theorem dX9_runChart_42 : decode cX9_runChart 42 = .ok (.iload 6, 2) := by decide +kernel
theorem dX9_runChart_44 : decode cX9_runChart 44 = .ok (.aload_n 0, 1) := by decide +kernel
theorem dX9_runChart_45 : decode cX9_runChart 45 = .ok (.getfield 10, 3) := by decide +kernel
theorem dX9_runChart_48 : decode cX9_runChart 48 = .ok (.getfield 126, 3) := by decide +kernel
theorem dX9_runChart_51 : decode cX9_runChart 51 = .ok (.if_icmp .ge 62, 3) := by decide +kernel
theorem dX9_runChart_54 : decode cX9_runChart 54 = .ok (.iload 5, 2) := by decide +kernel
theorem dX9_runChart_56 : decode cX9_runChart 56 = .ok (.iload 6, 2) := by decide +kernel
theorem dX9_runChart_58 : decode cX9_runChart 58 = .ok (.invokestatic 217, 3) := by decide +kernel
theorem dX9_runChart_61 : decode cX9_runChart 61 = .ok (.ifCond .eq 17, 3) := by decide +kernel
theorem dX9_runChart_64 : decode cX9_runChart 64 = .ok (.aload_n 0, 1) := by decide +kernel
theorem dX9_runChart_65 : decode cX9_runChart 65 = .ok (.getfield 22, 3) := by decide +kernel
theorem dX9_runChart_68 : decode cX9_runChart 68 = .ok (.getfield 318, 3) := by decide +kernel
theorem dX9_runChart_71 : decode cX9_runChart 71 = .ok (.iload 6, 2) := by decide +kernel
theorem dX9_runChart_73 : decode cX9_runChart 73 = .ok (.iconst 0, 1) := by decide +kernel
theorem dX9_runChart_74 : decode cX9_runChart 74 = .ok (.iastore, 1) := by decide +kernel
theorem dX9_runChart_75 : decode cX9_runChart 75 = .ok (.goto 32, 3) := by decide +kernel
theorem dX9_runChart_78 : decode cX9_runChart 78 = .ok (.aload_n 0, 1) := by decide +kernel
theorem dX9_runChart_79 : decode cX9_runChart 79 = .ok (.getfield 22, 3) := by decide +kernel
theorem dX9_runChart_82 : decode cX9_runChart 82 = .ok (.getfield 194, 3) := by decide +kernel
theorem dX9_runChart_85 : decode cX9_runChart 85 = .ok (.iload 6, 2) := by decide +kernel
theorem dX9_runChart_87 : decode cX9_runChart 87 = .ok (.invokestatic 217, 3) := by decide +kernel
theorem dX9_runChart_90 : decode cX9_runChart 90 = .ok (.ifCond .eq 17, 3) := by decide +kernel
theorem dX9_runChart_93 : decode cX9_runChart 93 = .ok (.aload_n 0, 1) := by decide +kernel
theorem dX9_runChart_94 : decode cX9_runChart 94 = .ok (.getfield 22, 3) := by decide +kernel
theorem dX9_runChart_97 : decode cX9_runChart 97 = .ok (.getfield 318, 3) := by decide +kernel
theorem dX9_runChart_100 : decode cX9_runChart 100 = .ok (.iload 6, 2) := by decide +kernel
theorem dX9_runChart_102 : decode cX9_runChart 102 = .ok (.dup2, 1) := by decide +kernel
theorem dX9_runChart_103 : decode cX9_runChart 103 = .ok (.iaload, 1) := by decide +kernel
theorem dX9_runChart_104 : decode cX9_runChart 104 = .ok (.iload_n 1, 1) := by decide +kernel
theorem dX9_runChart_105 : decode cX9_runChart 105 = .ok (.iadd, 1) := by decide +kernel
theorem dX9_runChart_106 : decode cX9_runChart 106 = .ok (.iastore, 1) := by decide +kernel
theorem dX9_runChart_107 : decode cX9_runChart 107 = .ok (.iinc 6 1, 3) := by decide +kernel
theorem dX9_runChart_110 : decode cX9_runChart 110 = .ok (.goto (-68), 3) := by decide +kernel
theorem dX9_runChart_113 : decode cX9_runChart 113 = .ok (.iconst 0, 1) := by decide +kernel
theorem dX9_runChart_114 : decode cX9_runChart 114 = .ok (.istore 6, 2) := by decide +kernel
theorem dX9_runChart_116 : decode cX9_runChart 116 = .ok (.iload 6, 2) := by decide +kernel
theorem dX9_runChart_118 : decode cX9_runChart 118 = .ok (.aload_n 0, 1) := by decide +kernel
theorem dX9_runChart_119 : decode cX9_runChart 119 = .ok (.getfield 10, 3) := by decide +kernel
theorem dX9_runChart_122 : decode cX9_runChart 122 = .ok (.getfield 126, 3) := by decide +kernel
theorem dX9_runChart_125 : decode cX9_runChart 125 = .ok (.if_icmp .ge 33, 3) := by decide +kernel
theorem dX9_runChart_128 : decode cX9_runChart 128 = .ok (.iload 4, 2) := by decide +kernel
theorem dX9_runChart_130 : decode cX9_runChart 130 = .ok (.iload 6, 2) := by decide +kernel
theorem dX9_runChart_132 : decode cX9_runChart 132 = .ok (.invokestatic 217, 3) := by decide +kernel
theorem dX9_runChart_135 : decode cX9_runChart 135 = .ok (.ifCond .eq 17, 3) := by decide +kernel
theorem dX9_runChart_138 : decode cX9_runChart 138 = .ok (.aload_n 0, 1) := by decide +kernel
theorem dX9_runChart_139 : decode cX9_runChart 139 = .ok (.aload_n 0, 1) := by decide +kernel
theorem dX9_runChart_140 : decode cX9_runChart 140 = .ok (.getfield 10, 3) := by decide +kernel
theorem dX9_runChart_143 : decode cX9_runChart 143 = .ok (.getfield 129, 3) := by decide +kernel
theorem dX9_runChart_146 : decode cX9_runChart 146 = .ok (.iload 6, 2) := by decide +kernel
theorem dX9_runChart_148 : decode cX9_runChart 148 = .ok (.aaload, 1) := by decide +kernel
theorem dX9_runChart_149 : decode cX9_runChart 149 = .ok (.invokevirtual 459, 3) := by decide +kernel
theorem dX9_runChart_152 : decode cX9_runChart 152 = .ok (.iinc 6 1, 3) := by decide +kernel
theorem dX9_runChart_155 : decode cX9_runChart 155 = .ok (.goto (-39), 3) := by decide +kernel
theorem dX9_runChart_158 : decode cX9_runChart 158 = .ok (.iconst 0, 1) := by decide +kernel
theorem dX9_runChart_159 : decode cX9_runChart 159 = .ok (.istore 6, 2) := by decide +kernel
theorem dX9_runChart_161 : decode cX9_runChart 161 = .ok (.iload 6, 2) := by decide +kernel
theorem dX9_runChart_163 : decode cX9_runChart 163 = .ok (.aload_n 0, 1) := by decide +kernel
theorem dX9_runChart_164 : decode cX9_runChart 164 = .ok (.getfield 10, 3) := by decide +kernel
theorem dX9_runChart_167 : decode cX9_runChart 167 = .ok (.getfield 126, 3) := by decide +kernel
theorem dX9_runChart_170 : decode cX9_runChart 170 = .ok (.if_icmp .ge 55, 3) := by decide +kernel
theorem dX9_runChart_173 : decode cX9_runChart 173 = .ok (.aload_n 0, 1) := by decide +kernel
theorem dX9_runChart_174 : decode cX9_runChart 174 = .ok (.getfield 22, 3) := by decide +kernel
theorem dX9_runChart_177 : decode cX9_runChart 177 = .ok (.getfield 194, 3) := by decide +kernel
theorem dX9_runChart_180 : decode cX9_runChart 180 = .ok (.iload 6, 2) := by decide +kernel
theorem dX9_runChart_182 : decode cX9_runChart 182 = .ok (.invokestatic 217, 3) := by decide +kernel
theorem dX9_runChart_185 : decode cX9_runChart 185 = .ok (.ifCond .eq 34, 3) := by decide +kernel
theorem dX9_runChart_188 : decode cX9_runChart 188 = .ok (.aload_n 0, 1) := by decide +kernel
theorem dX9_runChart_189 : decode cX9_runChart 189 = .ok (.aload_n 0, 1) := by decide +kernel
theorem dX9_runChart_190 : decode cX9_runChart 190 = .ok (.getfield 10, 3) := by decide +kernel
theorem dX9_runChart_193 : decode cX9_runChart 193 = .ok (.getfield 129, 3) := by decide +kernel
theorem dX9_runChart_196 : decode cX9_runChart 196 = .ok (.iload 6, 2) := by decide +kernel
theorem dX9_runChart_198 : decode cX9_runChart 198 = .ok (.aaload, 1) := by decide +kernel
theorem dX9_runChart_199 : decode cX9_runChart 199 = .ok (.iload 5, 2) := by decide +kernel
theorem dX9_runChart_201 : decode cX9_runChart 201 = .ok (.iload 6, 2) := by decide +kernel
theorem dX9_runChart_203 : decode cX9_runChart 203 = .ok (.invokestatic 217, 3) := by decide +kernel
theorem dX9_runChart_206 : decode cX9_runChart 206 = .ok (.aload_n 0, 1) := by decide +kernel
theorem dX9_runChart_207 : decode cX9_runChart 207 = .ok (.getfield 22, 3) := by decide +kernel
theorem dX9_runChart_210 : decode cX9_runChart 210 = .ok (.getfield 318, 3) := by decide +kernel
theorem dX9_runChart_213 : decode cX9_runChart 213 = .ok (.iload 6, 2) := by decide +kernel
theorem dX9_runChart_215 : decode cX9_runChart 215 = .ok (.iaload, 1) := by decide +kernel
theorem dX9_runChart_216 : decode cX9_runChart 216 = .ok (.invokevirtual 463, 3) := by decide +kernel
theorem dX9_runChart_219 : decode cX9_runChart 219 = .ok (.iinc 6 1, 3) := by decide +kernel
theorem dX9_runChart_222 : decode cX9_runChart 222 = .ok (.goto (-61), 3) := by decide +kernel
theorem dX9_runChart_225 : decode cX9_runChart 225 = .ok (.return_, 1) := by decide +kernel
theorem dX9_fireTransitions_0 : decode cX9_fireTransitions 0 = .ok (.iconst 0, 1) := by decide +kernel
theorem dX9_fireTransitions_1 : decode cX9_fireTransitions 1 = .ok (.istore_n 1, 1) := by decide +kernel
theorem dX9_fireTransitions_2 : decode cX9_fireTransitions 2 = .ok (.aload_n 0, 1) := by decide +kernel
theorem dX9_fireTransitions_3 : decode cX9_fireTransitions 3 = .ok (.invokevirtual 303, 3) := by decide +kernel
theorem dX9_fireTransitions_6 : decode cX9_fireTransitions 6 = .ok (.istore_n 2, 1) := by decide +kernel
theorem dX9_fireTransitions_7 : decode cX9_fireTransitions 7 = .ok (.iconst 0, 1) := by decide +kernel
theorem dX9_fireTransitions_8 : decode cX9_fireTransitions 8 = .ok (.istore_n 3, 1) := by decide +kernel
theorem dX9_fireTransitions_9 : decode cX9_fireTransitions 9 = .ok (.iload_n 3, 1) := by decide +kernel
theorem dX9_fireTransitions_10 : decode cX9_fireTransitions 10 = .ok (.aload_n 0, 1) := by decide +kernel
theorem dX9_fireTransitions_11 : decode cX9_fireTransitions 11 = .ok (.getfield 10, 3) := by decide +kernel
theorem dX9_fireTransitions_14 : decode cX9_fireTransitions 14 = .ok (.getfield 162, 3) := by decide +kernel
theorem dX9_fireTransitions_17 : decode cX9_fireTransitions 17 = .ok (.if_icmp .ge 55, 3) := by decide +kernel
theorem dX9_fireTransitions_20 : decode cX9_fireTransitions 20 = .ok (.aload_n 0, 1) := by decide +kernel
theorem dX9_fireTransitions_21 : decode cX9_fireTransitions 21 = .ok (.getfield 10, 3) := by decide +kernel
theorem dX9_fireTransitions_24 : decode cX9_fireTransitions 24 = .ok (.getfield 165, 3) := by decide +kernel
theorem dX9_fireTransitions_27 : decode cX9_fireTransitions 27 = .ok (.iload_n 3, 1) := by decide +kernel
theorem dX9_fireTransitions_28 : decode cX9_fireTransitions 28 = .ok (.aaload, 1) := by decide +kernel
theorem dX9_fireTransitions_29 : decode cX9_fireTransitions 29 = .ok (.astore 4, 2) := by decide +kernel
theorem dX9_fireTransitions_31 : decode cX9_fireTransitions 31 = .ok (.aload_n 0, 1) := by decide +kernel
theorem dX9_fireTransitions_32 : decode cX9_fireTransitions 32 = .ok (.aload 4, 2) := by decide +kernel
theorem dX9_fireTransitions_34 : decode cX9_fireTransitions 34 = .ok (.getfield 172, 3) := by decide +kernel
theorem dX9_fireTransitions_37 : decode cX9_fireTransitions 37 = .ok (.invokevirtual 467, 3) := by decide +kernel
theorem dX9_fireTransitions_40 : decode cX9_fireTransitions 40 = .ok (.ifCond .eq 26, 3) := by decide +kernel
theorem dX9_fireTransitions_43 : decode cX9_fireTransitions 43 = .ok (.iload_n 2, 1) := by decide +kernel
theorem dX9_fireTransitions_44 : decode cX9_fireTransitions 44 = .ok (.aload 4, 2) := by decide +kernel
theorem dX9_fireTransitions_46 : decode cX9_fireTransitions 46 = .ok (.getfield 180, 3) := by decide +kernel
theorem dX9_fireTransitions_49 : decode cX9_fireTransitions 49 = .ok (.invokestatic 217, 3) := by decide +kernel
theorem dX9_fireTransitions_52 : decode cX9_fireTransitions 52 = .ok (.aload 4, 2) := by decide +kernel
theorem dX9_fireTransitions_54 : decode cX9_fireTransitions 54 = .ok (.getfield 183, 3) := by decide +kernel
theorem dX9_fireTransitions_57 : decode cX9_fireTransitions 57 = .ok (.if_icmp .ne 9, 3) := by decide +kernel
theorem dX9_fireTransitions_60 : decode cX9_fireTransitions 60 = .ok (.iload_n 1, 1) := by decide +kernel
theorem dX9_fireTransitions_61 : decode cX9_fireTransitions 61 = .ok (.iconst 1, 1) := by decide +kernel
theorem dX9_fireTransitions_62 : decode cX9_fireTransitions 62 = .ok (.iload_n 3, 1) := by decide +kernel
theorem dX9_fireTransitions_63 : decode cX9_fireTransitions 63 = .ok (.ishl, 1) := by decide +kernel
theorem dX9_fireTransitions_64 : decode cX9_fireTransitions 64 = .ok (.ior, 1) := by decide +kernel
theorem dX9_fireTransitions_65 : decode cX9_fireTransitions 65 = .ok (.istore_n 1, 1) := by decide +kernel
theorem dX9_fireTransitions_66 : decode cX9_fireTransitions 66 = .ok (.iinc 3 1, 3) := by decide +kernel
theorem dX9_fireTransitions_69 : decode cX9_fireTransitions 69 = .ok (.goto (-60), 3) := by decide +kernel
theorem dX9_fireTransitions_72 : decode cX9_fireTransitions 72 = .ok (.iconst 0, 1) := by decide +kernel
theorem dX9_fireTransitions_73 : decode cX9_fireTransitions 73 = .ok (.istore_n 3, 1) := by decide +kernel
theorem dX9_fireTransitions_74 : decode cX9_fireTransitions 74 = .ok (.iconst 0, 1) := by decide +kernel
theorem dX9_fireTransitions_75 : decode cX9_fireTransitions 75 = .ok (.istore 4, 2) := by decide +kernel
theorem dX9_fireTransitions_77 : decode cX9_fireTransitions 77 = .ok (.iload 4, 2) := by decide +kernel
theorem dX9_fireTransitions_79 : decode cX9_fireTransitions 79 = .ok (.aload_n 0, 1) := by decide +kernel
theorem dX9_fireTransitions_80 : decode cX9_fireTransitions 80 = .ok (.getfield 10, 3) := by decide +kernel
theorem dX9_fireTransitions_83 : decode cX9_fireTransitions 83 = .ok (.getfield 162, 3) := by decide +kernel
theorem dX9_fireTransitions_86 : decode cX9_fireTransitions 86 = .ok (.if_icmp .ge 78, 3) := by decide +kernel
theorem dX9_fireTransitions_89 : decode cX9_fireTransitions 89 = .ok (.aload_n 0, 1) := by decide +kernel
theorem dX9_fireTransitions_90 : decode cX9_fireTransitions 90 = .ok (.getfield 10, 3) := by decide +kernel
theorem dX9_fireTransitions_93 : decode cX9_fireTransitions 93 = .ok (.getfield 165, 3) := by decide +kernel
theorem dX9_fireTransitions_96 : decode cX9_fireTransitions 96 = .ok (.iload 4, 2) := by decide +kernel
theorem dX9_fireTransitions_98 : decode cX9_fireTransitions 98 = .ok (.aaload, 1) := by decide +kernel
theorem dX9_fireTransitions_99 : decode cX9_fireTransitions 99 = .ok (.astore 5, 2) := by decide +kernel
theorem dX9_fireTransitions_101 : decode cX9_fireTransitions 101 = .ok (.iload_n 1, 1) := by decide +kernel
theorem dX9_fireTransitions_102 : decode cX9_fireTransitions 102 = .ok (.iload 4, 2) := by decide +kernel
theorem dX9_fireTransitions_104 : decode cX9_fireTransitions 104 = .ok (.invokestatic 217, 3) := by decide +kernel
theorem dX9_fireTransitions_107 : decode cX9_fireTransitions 107 = .ok (.ifCond .eq 51, 3) := by decide +kernel
theorem dX9_fireTransitions_110 : decode cX9_fireTransitions 110 = .ok (.aload_n 0, 1) := by decide +kernel
theorem dX9_fireTransitions_111 : decode cX9_fireTransitions 111 = .ok (.aload 5, 2) := by decide +kernel
theorem dX9_fireTransitions_113 : decode cX9_fireTransitions 113 = .ok (.getfield 172, 3) := by decide +kernel
theorem dX9_fireTransitions_116 : decode cX9_fireTransitions 116 = .ok (.invokevirtual 467, 3) := by decide +kernel
theorem dX9_fireTransitions_119 : decode cX9_fireTransitions 119 = .ok (.ifCond .eq 39, 3) := by decide +kernel
theorem dX9_fireTransitions_122 : decode cX9_fireTransitions 122 = .ok (.aload_n 0, 1) := by decide +kernel
theorem dX9_fireTransitions_123 : decode cX9_fireTransitions 123 = .ok (.getfield 22, 3) := by decide +kernel
theorem dX9_fireTransitions_126 : decode cX9_fireTransitions 126 = .ok (.aload_n 0, 1) := by decide +kernel
theorem dX9_fireTransitions_127 : decode cX9_fireTransitions 127 = .ok (.getfield 22, 3) := by decide +kernel
theorem dX9_fireTransitions_130 : decode cX9_fireTransitions 130 = .ok (.getfield 194, 3) := by decide +kernel
theorem dX9_fireTransitions_133 : decode cX9_fireTransitions 133 = .ok (.aload 5, 2) := by decide +kernel
theorem dX9_fireTransitions_135 : decode cX9_fireTransitions 135 = .ok (.getfield 172, 3) := by decide +kernel
theorem dX9_fireTransitions_138 : decode cX9_fireTransitions 138 = .ok (.iconst (-1), 1) := by decide +kernel
theorem dX9_fireTransitions_139 : decode cX9_fireTransitions 139 = .ok (.ixor, 1) := by decide +kernel
theorem dX9_fireTransitions_140 : decode cX9_fireTransitions 140 = .ok (.iand, 1) := by decide +kernel
theorem dX9_fireTransitions_141 : decode cX9_fireTransitions 141 = .ok (.aload 5, 2) := by decide +kernel
theorem dX9_fireTransitions_143 : decode cX9_fireTransitions 143 = .ok (.getfield 177, 3) := by decide +kernel
theorem dX9_fireTransitions_146 : decode cX9_fireTransitions 146 = .ok (.ior, 1) := by decide +kernel
theorem dX9_fireTransitions_147 : decode cX9_fireTransitions 147 = .ok (.putfield 194, 3) := by decide +kernel
theorem dX9_fireTransitions_150 : decode cX9_fireTransitions 150 = .ok (.iload_n 3, 1) := by decide +kernel
theorem dX9_fireTransitions_151 : decode cX9_fireTransitions 151 = .ok (.aload 5, 2) := by decide +kernel
theorem dX9_fireTransitions_153 : decode cX9_fireTransitions 153 = .ok (.getfield 177, 3) := by decide +kernel
theorem dX9_fireTransitions_156 : decode cX9_fireTransitions 156 = .ok (.ior, 1) := by decide +kernel
theorem dX9_fireTransitions_157 : decode cX9_fireTransitions 157 = .ok (.istore_n 3, 1) := by decide +kernel
theorem dX9_fireTransitions_158 : decode cX9_fireTransitions 158 = .ok (.iinc 4 1, 3) := by decide +kernel
theorem dX9_fireTransitions_161 : decode cX9_fireTransitions 161 = .ok (.goto (-84), 3) := by decide +kernel
theorem dX9_fireTransitions_164 : decode cX9_fireTransitions 164 = .ok (.iload_n 3, 1) := by decide +kernel
theorem dX9_fireTransitions_165 : decode cX9_fireTransitions 165 = .ok (.ireturn, 1) := by decide +kernel
theorem dX9_areActive_0 : decode cX9_areActive 0 = .ok (.aload_n 0, 1) := by decide +kernel
theorem dX9_areActive_1 : decode cX9_areActive 1 = .ok (.getfield 22, 3) := by decide +kernel
theorem dX9_areActive_4 : decode cX9_areActive 4 = .ok (.getfield 194, 3) := by decide +kernel
theorem dX9_areActive_7 : decode cX9_areActive 7 = .ok (.iload_n 1, 1) := by decide +kernel
theorem dX9_areActive_8 : decode cX9_areActive 8 = .ok (.iand, 1) := by decide +kernel
theorem dX9_areActive_9 : decode cX9_areActive 9 = .ok (.iload_n 1, 1) := by decide +kernel
theorem dX9_areActive_10 : decode cX9_areActive 10 = .ok (.if_icmp .ne 7, 3) := by decide +kernel
theorem dX9_areActive_13 : decode cX9_areActive 13 = .ok (.iconst 1, 1) := by decide +kernel
theorem dX9_areActive_14 : decode cX9_areActive 14 = .ok (.goto 4, 3) := by decide +kernel
theorem dX9_areActive_17 : decode cX9_areActive 17 = .ok (.iconst 0, 1) := by decide +kernel
theorem dX9_areActive_18 : decode cX9_areActive 18 = .ok (.ireturn, 1) := by decide +kernel
theorem dX9_clearActions_0 : decode cX9_clearActions 0 = .ok (.iconst 0, 1) := by decide +kernel
theorem dX9_clearActions_1 : decode cX9_clearActions 1 = .ok (.istore_n 2, 1) := by decide +kernel
theorem dX9_clearActions_2 : decode cX9_clearActions 2 = .ok (.iload_n 2, 1) := by decide +kernel
theorem dX9_clearActions_3 : decode cX9_clearActions 3 = .ok (.aload_n 1, 1) := by decide +kernel
theorem dX9_clearActions_4 : decode cX9_clearActions 4 = .ok (.getfield 133, 3) := by decide +kernel
theorem dX9_clearActions_7 : decode cX9_clearActions 7 = .ok (.if_icmp .ge 48, 3) := by decide +kernel
theorem dX9_clearActions_10 : decode cX9_clearActions 10 = .ok (.aload_n 1, 1) := by decide +kernel
theorem dX9_clearActions_11 : decode cX9_clearActions 11 = .ok (.getfield 150, 3) := by decide +kernel
theorem dX9_clearActions_14 : decode cX9_clearActions 14 = .ok (.iload_n 2, 1) := by decide +kernel
theorem dX9_clearActions_15 : decode cX9_clearActions 15 = .ok (.caload, 1) := by decide +kernel
theorem dX9_clearActions_16 : decode cX9_clearActions 16 = .ok (.istore_n 3, 1) := by decide +kernel
theorem dX9_clearActions_17 : decode cX9_clearActions 17 = .ok (.iload_n 3, 1) := by decide +kernel
theorem dX9_clearActions_18 : decode cX9_clearActions 18 = .ok (.bipush 110, 2) := by decide +kernel
theorem dX9_clearActions_20 : decode cX9_clearActions 20 = .ok (.if_icmp .eq 15, 3) := by decide +kernel
theorem dX9_clearActions_23 : decode cX9_clearActions 23 = .ok (.iload_n 3, 1) := by decide +kernel
theorem dX9_clearActions_24 : decode cX9_clearActions 24 = .ok (.bipush 100, 2) := by decide +kernel
theorem dX9_clearActions_26 : decode cX9_clearActions 26 = .ok (.if_icmp .eq 9, 3) := by decide +kernel
theorem dX9_clearActions_29 : decode cX9_clearActions 29 = .ok (.iload_n 3, 1) := by decide +kernel
theorem dX9_clearActions_30 : decode cX9_clearActions 30 = .ok (.bipush 108, 2) := by decide +kernel
theorem dX9_clearActions_32 : decode cX9_clearActions 32 = .ok (.if_icmp .ne 17, 3) := by decide +kernel
theorem dX9_clearActions_35 : decode cX9_clearActions 35 = .ok (.aload_n 0, 1) := by decide +kernel
theorem dX9_clearActions_36 : decode cX9_clearActions 36 = .ok (.getfield 22, 3) := by decide +kernel
theorem dX9_clearActions_39 : decode cX9_clearActions 39 = .ok (.aload_n 1, 1) := by decide +kernel
theorem dX9_clearActions_40 : decode cX9_clearActions 40 = .ok (.getfield 153, 3) := by decide +kernel
theorem dX9_clearActions_43 : decode cX9_clearActions 43 = .ok (.iload_n 2, 1) := by decide +kernel
theorem dX9_clearActions_44 : decode cX9_clearActions 44 = .ok (.iaload, 1) := by decide +kernel
theorem dX9_clearActions_45 : decode cX9_clearActions 45 = .ok (.iconst 0, 1) := by decide +kernel
theorem dX9_clearActions_46 : decode cX9_clearActions 46 = .ok (.invokevirtual 435, 3) := by decide +kernel
theorem dX9_clearActions_49 : decode cX9_clearActions 49 = .ok (.iinc 2 1, 3) := by decide +kernel
theorem dX9_clearActions_52 : decode cX9_clearActions 52 = .ok (.goto (-50), 3) := by decide +kernel
theorem dX9_clearActions_55 : decode cX9_clearActions 55 = .ok (.return_, 1) := by decide +kernel
theorem dX9_doActions_0 : decode cX9_doActions 0 = .ok (.iconst 0, 1) := by decide +kernel
theorem dX9_doActions_1 : decode cX9_doActions 1 = .ok (.istore 4, 2) := by decide +kernel
theorem dX9_doActions_3 : decode cX9_doActions 3 = .ok (.iload 4, 2) := by decide +kernel
theorem dX9_doActions_5 : decode cX9_doActions 5 = .ok (.aload_n 1, 1) := by decide +kernel
theorem dX9_doActions_6 : decode cX9_doActions 6 = .ok (.getfield 133, 3) := by decide +kernel
theorem dX9_doActions_9 : decode cX9_doActions 9 = .ok (.if_icmp .ge 160, 3) := by decide +kernel
theorem dX9_doActions_12 : decode cX9_doActions 12 = .ok (.aload_n 1, 1) := by decide +kernel
theorem dX9_doActions_13 : decode cX9_doActions 13 = .ok (.getfield 153, 3) := by decide +kernel
theorem dX9_doActions_16 : decode cX9_doActions 16 = .ok (.iload 4, 2) := by decide +kernel
theorem dX9_doActions_18 : decode cX9_doActions 18 = .ok (.iaload, 1) := by decide +kernel
theorem dX9_doActions_19 : decode cX9_doActions 19 = .ok (.istore 5, 2) := by decide +kernel
theorem dX9_doActions_21 : decode cX9_doActions 21 = .ok (.aload_n 1, 1) := by decide +kernel
theorem dX9_doActions_22 : decode cX9_doActions 22 = .ok (.getfield 150, 3) := by decide +kernel
theorem dX9_doActions_25 : decode cX9_doActions 25 = .ok (.iload 4, 2) := by decide +kernel
theorem dX9_doActions_27 : decode cX9_doActions 27 = .ok (.caload, 1) := by decide +kernel
theorem dX9_doActions_28 : decode cX9_doActions 28 = .ok (.lookupswitch 105 #[(100, 49), (108, 77), (110, 36)], 36) := by decide +kernel
theorem dX9_doActions_64 : decode cX9_doActions 64 = .ok (.aload_n 0, 1) := by decide +kernel
theorem dX9_doActions_65 : decode cX9_doActions 65 = .ok (.getfield 22, 3) := by decide +kernel
theorem dX9_doActions_68 : decode cX9_doActions 68 = .ok (.iload 5, 2) := by decide +kernel
theorem dX9_doActions_70 : decode cX9_doActions 70 = .ok (.iconst 1, 1) := by decide +kernel
theorem dX9_doActions_71 : decode cX9_doActions 71 = .ok (.invokevirtual 435, 3) := by decide +kernel
theorem dX9_doActions_74 : decode cX9_doActions 74 = .ok (.goto 89, 3) := by decide +kernel
theorem dX9_doActions_77 : decode cX9_doActions 77 = .ok (.aload_n 0, 1) := by decide +kernel
theorem dX9_doActions_78 : decode cX9_doActions 78 = .ok (.getfield 22, 3) := by decide +kernel
theorem dX9_doActions_81 : decode cX9_doActions 81 = .ok (.iload 5, 2) := by decide +kernel
theorem dX9_doActions_83 : decode cX9_doActions 83 = .ok (.iload_n 3, 1) := by decide +kernel
theorem dX9_doActions_84 : decode cX9_doActions 84 = .ok (.aload_n 1, 1) := by decide +kernel
theorem dX9_doActions_85 : decode cX9_doActions 85 = .ok (.getfield 156, 3) := by decide +kernel
theorem dX9_doActions_88 : decode cX9_doActions 88 = .ok (.iload 4, 2) := by decide +kernel
theorem dX9_doActions_90 : decode cX9_doActions 90 = .ok (.iaload, 1) := by decide +kernel
theorem dX9_doActions_91 : decode cX9_doActions 91 = .ok (.if_icmp .lt 7, 3) := by decide +kernel
theorem dX9_doActions_94 : decode cX9_doActions 94 = .ok (.iconst 1, 1) := by decide +kernel
theorem dX9_doActions_95 : decode cX9_doActions 95 = .ok (.goto 4, 3) := by decide +kernel
theorem dX9_doActions_98 : decode cX9_doActions 98 = .ok (.iconst 0, 1) := by decide +kernel
theorem dX9_doActions_99 : decode cX9_doActions 99 = .ok (.invokevirtual 435, 3) := by decide +kernel
theorem dX9_doActions_102 : decode cX9_doActions 102 = .ok (.goto 61, 3) := by decide +kernel
theorem dX9_doActions_105 : decode cX9_doActions 105 = .ok (.aload_n 0, 1) := by decide +kernel
theorem dX9_doActions_106 : decode cX9_doActions 106 = .ok (.getfield 22, 3) := by decide +kernel
theorem dX9_doActions_109 : decode cX9_doActions 109 = .ok (.iload 5, 2) := by decide +kernel
theorem dX9_doActions_111 : decode cX9_doActions 111 = .ok (.iload_n 3, 1) := by decide +kernel
theorem dX9_doActions_112 : decode cX9_doActions 112 = .ok (.aload_n 1, 1) := by decide +kernel
theorem dX9_doActions_113 : decode cX9_doActions 113 = .ok (.getfield 156, 3) := by decide +kernel
theorem dX9_doActions_116 : decode cX9_doActions 116 = .ok (.iload 4, 2) := by decide +kernel
theorem dX9_doActions_118 : decode cX9_doActions 118 = .ok (.iaload, 1) := by decide +kernel
theorem dX9_doActions_119 : decode cX9_doActions 119 = .ok (.if_icmp .ge 7, 3) := by decide +kernel
theorem dX9_doActions_122 : decode cX9_doActions 122 = .ok (.iconst 1, 1) := by decide +kernel
theorem dX9_doActions_123 : decode cX9_doActions 123 = .ok (.goto 4, 3) := by decide +kernel
theorem dX9_doActions_126 : decode cX9_doActions 126 = .ok (.iconst 0, 1) := by decide +kernel
theorem dX9_doActions_127 : decode cX9_doActions 127 = .ok (.invokevirtual 435, 3) := by decide +kernel
theorem dX9_doActions_130 : decode cX9_doActions 130 = .ok (.goto 33, 3) := by decide +kernel
theorem dX9_doActions_133 : decode cX9_doActions 133 = .ok (.iload_n 2, 1) := by decide +kernel
theorem dX9_doActions_134 : decode cX9_doActions 134 = .ok (.ifCond .eq 29, 3) := by decide +kernel
theorem dX9_doActions_137 : decode cX9_doActions 137 = .ok (.aload_n 0, 1) := by decide +kernel
theorem dX9_doActions_138 : decode cX9_doActions 138 = .ok (.getfield 22, 3) := by decide +kernel
theorem dX9_doActions_141 : decode cX9_doActions 141 = .ok (.iload 5, 2) := by decide +kernel
theorem dX9_doActions_143 : decode cX9_doActions 143 = .ok (.aload_n 1, 1) := by decide +kernel
theorem dX9_doActions_144 : decode cX9_doActions 144 = .ok (.getfield 150, 3) := by decide +kernel
theorem dX9_doActions_147 : decode cX9_doActions 147 = .ok (.iload 4, 2) := by decide +kernel
theorem dX9_doActions_149 : decode cX9_doActions 149 = .ok (.caload, 1) := by decide +kernel
theorem dX9_doActions_150 : decode cX9_doActions 150 = .ok (.bipush 115, 2) := by decide +kernel
theorem dX9_doActions_152 : decode cX9_doActions 152 = .ok (.if_icmp .ne 7, 3) := by decide +kernel
theorem dX9_doActions_155 : decode cX9_doActions 155 = .ok (.iconst 1, 1) := by decide +kernel
theorem dX9_doActions_156 : decode cX9_doActions 156 = .ok (.goto 4, 3) := by decide +kernel
theorem dX9_doActions_159 : decode cX9_doActions 159 = .ok (.iconst 0, 1) := by decide +kernel
theorem dX9_doActions_160 : decode cX9_doActions 160 = .ok (.invokevirtual 435, 3) := by decide +kernel
theorem dX9_doActions_163 : decode cX9_doActions 163 = .ok (.iinc 4 1, 3) := by decide +kernel
theorem dX9_doActions_166 : decode cX9_doActions 166 = .ok (.goto (-163), 3) := by decide +kernel
theorem dX9_doActions_169 : decode cX9_doActions 169 = .ok (.return_, 1) := by decide +kernel
theorem dJ0_length_8abf5_0 : decode cJ0_length_8abf5 0 = .ok (.aload_n 0, 1) := by decide +kernel
theorem dJ0_length_8abf5_1 : decode cJ0_length_8abf5 1 = .ok (.getfield 9, 3) := by decide +kernel
theorem dJ0_length_8abf5_4 : decode cJ0_length_8abf5 4 = .ok (.arraylength, 1) := by decide +kernel
theorem dJ0_length_8abf5_5 : decode cJ0_length_8abf5 5 = .ok (.aload_n 0, 1) := by decide +kernel
theorem dJ0_length_8abf5_6 : decode cJ0_length_8abf5 6 = .ok (.invokevirtual 335, 3) := by decide +kernel
theorem dJ0_length_8abf5_9 : decode cJ0_length_8abf5 9 = .ok (.ishr, 1) := by decide +kernel
theorem dJ0_length_8abf5_10 : decode cJ0_length_8abf5 10 = .ok (.ireturn, 1) := by decide +kernel
theorem dJ0_charAt_5068e_0 : decode cJ0_charAt_5068e 0 = .ok (.aload_n 0, 1) := by decide +kernel
theorem dJ0_charAt_5068e_1 : decode cJ0_charAt_5068e 1 = .ok (.invokevirtual 492, 3) := by decide +kernel
theorem dJ0_charAt_5068e_4 : decode cJ0_charAt_5068e 4 = .ok (.ifCond .eq 12, 3) := by decide +kernel
theorem dJ0_charAt_5068e_7 : decode cJ0_charAt_5068e 7 = .ok (.aload_n 0, 1) := by decide +kernel
theorem dJ0_charAt_5068e_8 : decode cJ0_charAt_5068e 8 = .ok (.getfield 9, 3) := by decide +kernel
theorem dJ0_charAt_5068e_11 : decode cJ0_charAt_5068e 11 = .ok (.iload_n 1, 1) := by decide +kernel
theorem dJ0_charAt_5068e_12 : decode cJ0_charAt_5068e 12 = .ok (.invokestatic 495, 3) := by decide +kernel
theorem dJ0_charAt_5068e_15 : decode cJ0_charAt_5068e 15 = .ok (.ireturn, 1) := by decide +kernel
theorem dJ0_charAt_5068e_16 : decode cJ0_charAt_5068e 16 = .ok (.aload_n 0, 1) := by decide +kernel
theorem dJ0_charAt_5068e_17 : decode cJ0_charAt_5068e 17 = .ok (.getfield 9, 3) := by decide +kernel
theorem dJ0_charAt_5068e_20 : decode cJ0_charAt_5068e 20 = .ok (.iload_n 1, 1) := by decide +kernel
theorem dJ0_charAt_5068e_21 : decode cJ0_charAt_5068e 21 = .ok (.invokestatic 498, 3) := by decide +kernel
theorem dJ0_charAt_5068e_24 : decode cJ0_charAt_5068e 24 = .ok (.ireturn, 1) := by decide +kernel
theorem dJ0_indexOf_0f7a4_0 : decode cJ0_indexOf_0f7a4 0 = .ok (.aload_n 0, 1) := by decide +kernel
theorem dJ0_indexOf_0f7a4_1 : decode cJ0_indexOf_0f7a4 1 = .ok (.iload_n 1, 1) := by decide +kernel
theorem dJ0_indexOf_0f7a4_2 : decode cJ0_indexOf_0f7a4 2 = .ok (.iconst 0, 1) := by decide +kernel
theorem dJ0_indexOf_0f7a4_3 : decode cJ0_indexOf_0f7a4 3 = .ok (.invokevirtual 633, 3) := by decide +kernel
theorem dJ0_indexOf_0f7a4_6 : decode cJ0_indexOf_0f7a4 6 = .ok (.ireturn, 1) := by decide +kernel
theorem dJ0_indexOf_7cf53_0 : decode cJ0_indexOf_7cf53 0 = .ok (.aload_n 0, 1) := by decide +kernel
theorem dJ0_indexOf_7cf53_1 : decode cJ0_indexOf_7cf53 1 = .ok (.invokevirtual 492, 3) := by decide +kernel
theorem dJ0_indexOf_7cf53_4 : decode cJ0_indexOf_7cf53 4 = .ok (.ifCond .eq 19, 3) := by decide +kernel
theorem dJ0_indexOf_7cf53_7 : decode cJ0_indexOf_7cf53 7 = .ok (.aload_n 0, 1) := by decide +kernel
theorem dJ0_indexOf_7cf53_8 : decode cJ0_indexOf_7cf53 8 = .ok (.getfield 9, 3) := by decide +kernel
theorem dJ0_indexOf_7cf53_11 : decode cJ0_indexOf_7cf53 11 = .ok (.iload_n 1, 1) := by decide +kernel
theorem dJ0_indexOf_7cf53_12 : decode cJ0_indexOf_7cf53 12 = .ok (.iload_n 2, 1) := by decide +kernel
theorem dJ0_indexOf_7cf53_13 : decode cJ0_indexOf_7cf53 13 = .ok (.aload_n 0, 1) := by decide +kernel
theorem dJ0_indexOf_7cf53_14 : decode cJ0_indexOf_7cf53 14 = .ok (.invokevirtual 505, 3) := by decide +kernel
theorem dJ0_indexOf_7cf53_17 : decode cJ0_indexOf_7cf53 17 = .ok (.invokestatic 637, 3) := by decide +kernel
theorem dJ0_indexOf_7cf53_20 : decode cJ0_indexOf_7cf53 20 = .ok (.goto 16, 3) := by decide +kernel
theorem dJ0_indexOf_7cf53_23 : decode cJ0_indexOf_7cf53 23 = .ok (.aload_n 0, 1) := by decide +kernel
theorem dJ0_indexOf_7cf53_24 : decode cJ0_indexOf_7cf53 24 = .ok (.getfield 9, 3) := by decide +kernel
theorem dJ0_indexOf_7cf53_27 : decode cJ0_indexOf_7cf53 27 = .ok (.iload_n 1, 1) := by decide +kernel
theorem dJ0_indexOf_7cf53_28 : decode cJ0_indexOf_7cf53 28 = .ok (.iload_n 2, 1) := by decide +kernel
theorem dJ0_indexOf_7cf53_29 : decode cJ0_indexOf_7cf53 29 = .ok (.aload_n 0, 1) := by decide +kernel
theorem dJ0_indexOf_7cf53_30 : decode cJ0_indexOf_7cf53 30 = .ok (.invokevirtual 505, 3) := by decide +kernel
theorem dJ0_indexOf_7cf53_33 : decode cJ0_indexOf_7cf53 33 = .ok (.invokestatic 640, 3) := by decide +kernel
theorem dJ0_indexOf_7cf53_36 : decode cJ0_indexOf_7cf53 36 = .ok (.ireturn, 1) := by decide +kernel
theorem dJ0_coder_7d493_0 : decode cJ0_coder_7d493 0 = .ok (.getstatic 38, 3) := by decide +kernel
theorem dJ0_coder_7d493_3 : decode cJ0_coder_7d493 3 = .ok (.ifCond .eq 10, 3) := by decide +kernel
theorem dJ0_coder_7d493_6 : decode cJ0_coder_7d493 6 = .ok (.aload_n 0, 1) := by decide +kernel
theorem dJ0_coder_7d493_7 : decode cJ0_coder_7d493 7 = .ok (.getfield 15, 3) := by decide +kernel
theorem dJ0_coder_7d493_10 : decode cJ0_coder_7d493 10 = .ok (.goto 4, 3) := by decide +kernel
theorem dJ0_coder_7d493_13 : decode cJ0_coder_7d493 13 = .ok (.iconst 1, 1) := by decide +kernel
theorem dJ0_coder_7d493_14 : decode cJ0_coder_7d493 14 = .ok (.ireturn, 1) := by decide +kernel
theorem dJ0_isLatin1_aae02_0 : decode cJ0_isLatin1_aae02 0 = .ok (.getstatic 38, 3) := by decide +kernel
theorem dJ0_isLatin1_aae02_3 : decode cJ0_isLatin1_aae02 3 = .ok (.ifCond .eq 14, 3) := by decide +kernel
theorem dJ0_isLatin1_aae02_6 : decode cJ0_isLatin1_aae02 6 = .ok (.aload_n 0, 1) := by decide +kernel
theorem dJ0_isLatin1_aae02_7 : decode cJ0_isLatin1_aae02 7 = .ok (.getfield 15, 3) := by decide +kernel
theorem dJ0_isLatin1_aae02_10 : decode cJ0_isLatin1_aae02 10 = .ok (.ifCond .ne 7, 3) := by decide +kernel
theorem dJ0_isLatin1_aae02_13 : decode cJ0_isLatin1_aae02 13 = .ok (.iconst 1, 1) := by decide +kernel
theorem dJ0_isLatin1_aae02_14 : decode cJ0_isLatin1_aae02 14 = .ok (.goto 4, 3) := by decide +kernel
theorem dJ0_isLatin1_aae02_17 : decode cJ0_isLatin1_aae02 17 = .ok (.iconst 0, 1) := by decide +kernel
theorem dJ0_isLatin1_aae02_18 : decode cJ0_isLatin1_aae02 18 = .ok (.ireturn, 1) := by decide +kernel
theorem dJ0_checkIndex_df160_0 : decode cJ0_checkIndex_df160 0 = .ok (.iload_n 0, 1) := by decide +kernel
theorem dJ0_checkIndex_df160_1 : decode cJ0_checkIndex_df160 1 = .ok (.iload_n 1, 1) := by decide +kernel
theorem dJ0_checkIndex_df160_2 : decode cJ0_checkIndex_df160 2 = .ok (.getstatic 1053, 3) := by decide +kernel
theorem dJ0_checkIndex_df160_5 : decode cJ0_checkIndex_df160 5 = .ok (.invokestatic 1059, 3) := by decide +kernel
theorem dJ0_checkIndex_df160_8 : decode cJ0_checkIndex_df160 8 = .ok (.pop, 1) := by decide +kernel
theorem dJ0_checkIndex_df160_9 : decode cJ0_checkIndex_df160 9 = .ok (.return_, 1) := by decide +kernel
theorem dJ1_charAt_3b067_0 : decode cJ1_charAt_3b067 0 = .ok (.iload_n 1, 1) := by decide +kernel
theorem dJ1_charAt_3b067_1 : decode cJ1_charAt_3b067 1 = .ok (.aload_n 0, 1) := by decide +kernel
theorem dJ1_charAt_3b067_2 : decode cJ1_charAt_3b067 2 = .ok (.arraylength, 1) := by decide +kernel
theorem dJ1_charAt_3b067_3 : decode cJ1_charAt_3b067 3 = .ok (.invokestatic 9, 3) := by decide +kernel
theorem dJ1_charAt_3b067_6 : decode cJ1_charAt_3b067 6 = .ok (.aload_n 0, 1) := by decide +kernel
theorem dJ1_charAt_3b067_7 : decode cJ1_charAt_3b067 7 = .ok (.iload_n 1, 1) := by decide +kernel
theorem dJ1_charAt_3b067_8 : decode cJ1_charAt_3b067 8 = .ok (.baload, 1) := by decide +kernel
theorem dJ1_charAt_3b067_9 : decode cJ1_charAt_3b067 9 = .ok (.sipush 255, 3) := by decide +kernel
theorem dJ1_charAt_3b067_12 : decode cJ1_charAt_3b067 12 = .ok (.iand, 1) := by decide +kernel
theorem dJ1_charAt_3b067_13 : decode cJ1_charAt_3b067 13 = .ok (.i2c, 1) := by decide +kernel
theorem dJ1_charAt_3b067_14 : decode cJ1_charAt_3b067 14 = .ok (.ireturn, 1) := by decide +kernel
theorem dJ1_canEncode_9a6ad_0 : decode cJ1_canEncode_9a6ad 0 = .ok (.iload_n 0, 1) := by decide +kernel
theorem dJ1_canEncode_9a6ad_1 : decode cJ1_canEncode_9a6ad 1 = .ok (.ifCond .lt 14, 3) := by decide +kernel
theorem dJ1_canEncode_9a6ad_4 : decode cJ1_canEncode_9a6ad 4 = .ok (.iload_n 0, 1) := by decide +kernel
theorem dJ1_canEncode_9a6ad_5 : decode cJ1_canEncode_9a6ad 5 = .ok (.sipush 255, 3) := by decide +kernel
theorem dJ1_canEncode_9a6ad_8 : decode cJ1_canEncode_9a6ad 8 = .ok (.if_icmp .gt 7, 3) := by decide +kernel
theorem dJ1_canEncode_9a6ad_11 : decode cJ1_canEncode_9a6ad 11 = .ok (.iconst 1, 1) := by decide +kernel
theorem dJ1_canEncode_9a6ad_12 : decode cJ1_canEncode_9a6ad 12 = .ok (.goto 4, 3) := by decide +kernel
theorem dJ1_canEncode_9a6ad_15 : decode cJ1_canEncode_9a6ad 15 = .ok (.iconst 0, 1) := by decide +kernel
theorem dJ1_canEncode_9a6ad_16 : decode cJ1_canEncode_9a6ad 16 = .ok (.ireturn, 1) := by decide +kernel
theorem dJ1_indexOf_4cfef_0 : decode cJ1_indexOf_4cfef 0 = .ok (.iload_n 1, 1) := by decide +kernel
theorem dJ1_indexOf_4cfef_1 : decode cJ1_indexOf_4cfef 1 = .ok (.invokestatic 88, 3) := by decide +kernel
theorem dJ1_indexOf_4cfef_4 : decode cJ1_indexOf_4cfef 4 = .ok (.ifCond .ne 5, 3) := by decide +kernel
theorem dJ1_indexOf_4cfef_7 : decode cJ1_indexOf_4cfef 7 = .ok (.iconst (-1), 1) := by decide +kernel
theorem dJ1_indexOf_4cfef_8 : decode cJ1_indexOf_4cfef 8 = .ok (.ireturn, 1) := by decide +kernel
theorem dJ1_indexOf_4cfef_9 : decode cJ1_indexOf_4cfef 9 = .ok (.iload_n 2, 1) := by decide +kernel
theorem dJ1_indexOf_4cfef_10 : decode cJ1_indexOf_4cfef 10 = .ok (.iconst 0, 1) := by decide +kernel
theorem dJ1_indexOf_4cfef_11 : decode cJ1_indexOf_4cfef 11 = .ok (.invokestatic 92, 3) := by decide +kernel
theorem dJ1_indexOf_4cfef_14 : decode cJ1_indexOf_4cfef 14 = .ok (.istore_n 2, 1) := by decide +kernel
theorem dJ1_indexOf_4cfef_15 : decode cJ1_indexOf_4cfef 15 = .ok (.iload_n 3, 1) := by decide +kernel
theorem dJ1_indexOf_4cfef_16 : decode cJ1_indexOf_4cfef 16 = .ok (.aload_n 0, 1) := by decide +kernel
theorem dJ1_indexOf_4cfef_17 : decode cJ1_indexOf_4cfef 17 = .ok (.arraylength, 1) := by decide +kernel
theorem dJ1_indexOf_4cfef_18 : decode cJ1_indexOf_4cfef 18 = .ok (.invokestatic 38, 3) := by decide +kernel
theorem dJ1_indexOf_4cfef_21 : decode cJ1_indexOf_4cfef 21 = .ok (.istore_n 3, 1) := by decide +kernel
theorem dJ1_indexOf_4cfef_22 : decode cJ1_indexOf_4cfef 22 = .ok (.iload_n 2, 1) := by decide +kernel
theorem dJ1_indexOf_4cfef_23 : decode cJ1_indexOf_4cfef 23 = .ok (.iload_n 3, 1) := by decide +kernel
theorem dJ1_indexOf_4cfef_24 : decode cJ1_indexOf_4cfef 24 = .ok (.if_icmp .lt 5, 3) := by decide +kernel
theorem dJ1_indexOf_4cfef_27 : decode cJ1_indexOf_4cfef 27 = .ok (.iconst (-1), 1) := by decide +kernel
theorem dJ1_indexOf_4cfef_28 : decode cJ1_indexOf_4cfef 28 = .ok (.ireturn, 1) := by decide +kernel
theorem dJ1_indexOf_4cfef_29 : decode cJ1_indexOf_4cfef 29 = .ok (.aload_n 0, 1) := by decide +kernel
theorem dJ1_indexOf_4cfef_30 : decode cJ1_indexOf_4cfef 30 = .ok (.iload_n 1, 1) := by decide +kernel
theorem dJ1_indexOf_4cfef_31 : decode cJ1_indexOf_4cfef 31 = .ok (.iload_n 2, 1) := by decide +kernel
theorem dJ1_indexOf_4cfef_32 : decode cJ1_indexOf_4cfef 32 = .ok (.iload_n 3, 1) := by decide +kernel
theorem dJ1_indexOf_4cfef_33 : decode cJ1_indexOf_4cfef 33 = .ok (.invokestatic 95, 3) := by decide +kernel
theorem dJ1_indexOf_4cfef_36 : decode cJ1_indexOf_4cfef 36 = .ok (.ireturn, 1) := by decide +kernel
theorem dJ1_indexOfChar_4cfef_0 : decode cJ1_indexOfChar_4cfef 0 = .ok (.iload_n 1, 1) := by decide +kernel
theorem dJ1_indexOfChar_4cfef_1 : decode cJ1_indexOfChar_4cfef 1 = .ok (.i2b, 1) := by decide +kernel
theorem dJ1_indexOfChar_4cfef_2 : decode cJ1_indexOfChar_4cfef 2 = .ok (.istore 4, 2) := by decide +kernel
theorem dJ1_indexOfChar_4cfef_4 : decode cJ1_indexOfChar_4cfef 4 = .ok (.iload_n 2, 1) := by decide +kernel
theorem dJ1_indexOfChar_4cfef_5 : decode cJ1_indexOfChar_4cfef 5 = .ok (.istore 5, 2) := by decide +kernel
theorem dJ1_indexOfChar_4cfef_7 : decode cJ1_indexOfChar_4cfef 7 = .ok (.iload 5, 2) := by decide +kernel
theorem dJ1_indexOfChar_4cfef_9 : decode cJ1_indexOfChar_4cfef 9 = .ok (.iload_n 3, 1) := by decide +kernel
theorem dJ1_indexOfChar_4cfef_10 : decode cJ1_indexOfChar_4cfef 10 = .ok (.if_icmp .ge 21, 3) := by decide +kernel
theorem dJ1_indexOfChar_4cfef_13 : decode cJ1_indexOfChar_4cfef 13 = .ok (.aload_n 0, 1) := by decide +kernel
theorem dJ1_indexOfChar_4cfef_14 : decode cJ1_indexOfChar_4cfef 14 = .ok (.iload 5, 2) := by decide +kernel
theorem dJ1_indexOfChar_4cfef_16 : decode cJ1_indexOfChar_4cfef 16 = .ok (.baload, 1) := by decide +kernel
theorem dJ1_indexOfChar_4cfef_17 : decode cJ1_indexOfChar_4cfef 17 = .ok (.iload 4, 2) := by decide +kernel
theorem dJ1_indexOfChar_4cfef_19 : decode cJ1_indexOfChar_4cfef 19 = .ok (.if_icmp .ne 6, 3) := by decide +kernel
theorem dJ1_indexOfChar_4cfef_22 : decode cJ1_indexOfChar_4cfef 22 = .ok (.iload 5, 2) := by decide +kernel
theorem dJ1_indexOfChar_4cfef_24 : decode cJ1_indexOfChar_4cfef 24 = .ok (.ireturn, 1) := by decide +kernel
theorem dJ1_indexOfChar_4cfef_25 : decode cJ1_indexOfChar_4cfef 25 = .ok (.iinc 5 1, 3) := by decide +kernel
theorem dJ1_indexOfChar_4cfef_28 : decode cJ1_indexOfChar_4cfef 28 = .ok (.goto (-21), 3) := by decide +kernel
theorem dJ1_indexOfChar_4cfef_31 : decode cJ1_indexOfChar_4cfef 31 = .ok (.iconst (-1), 1) := by decide +kernel
theorem dJ1_indexOfChar_4cfef_32 : decode cJ1_indexOfChar_4cfef 32 = .ok (.ireturn, 1) := by decide +kernel
theorem dJ3_checkIndex_8e157_0 : decode cJ3_checkIndex_8e157 0 = .ok (.iload_n 0, 1) := by decide +kernel
theorem dJ3_checkIndex_8e157_1 : decode cJ3_checkIndex_8e157 1 = .ok (.ifCond .lt 8, 3) := by decide +kernel
theorem dJ3_checkIndex_8e157_4 : decode cJ3_checkIndex_8e157 4 = .ok (.iload_n 0, 1) := by decide +kernel
theorem dJ3_checkIndex_8e157_5 : decode cJ3_checkIndex_8e157 5 = .ok (.iload_n 1, 1) := by decide +kernel
theorem dJ3_checkIndex_8e157_6 : decode cJ3_checkIndex_8e157 6 = .ok (.if_icmp .lt 10, 3) := by decide +kernel
theorem dJ3_checkIndex_8e157_9 : decode cJ3_checkIndex_8e157 9 = .ok (.aload_n 2, 1) := by decide +kernel
theorem dJ3_checkIndex_8e157_10 : decode cJ3_checkIndex_8e157 10 = .ok (.iload_n 0, 1) := by decide +kernel
theorem dJ3_checkIndex_8e157_11 : decode cJ3_checkIndex_8e157 11 = .ok (.iload_n 1, 1) := by decide +kernel
theorem dJ3_checkIndex_8e157_12 : decode cJ3_checkIndex_8e157 12 = .ok (.invokestatic 95, 3) := by decide +kernel
theorem dJ3_checkIndex_8e157_15 : decode cJ3_checkIndex_8e157 15 = .ok (.athrow, 1) := by decide +kernel
theorem dJ3_checkIndex_8e157_16 : decode cJ3_checkIndex_8e157 16 = .ok (.iload_n 0, 1) := by decide +kernel
theorem dJ3_checkIndex_8e157_17 : decode cJ3_checkIndex_8e157 17 = .ok (.ireturn, 1) := by decide +kernel
theorem dL_cell_0 : decode cL_cell 0 = .ok (.ldc 7, 2) := by decide +kernel
theorem dL_cell_2 : decode cL_cell 2 = .ok (.iload_n 1, 1) := by decide +kernel
theorem dL_cell_3 : decode cL_cell 3 = .ok (.aload_n 0, 1) := by decide +kernel
theorem dL_cell_4 : decode cL_cell 4 = .ok (.arraylength, 1) := by decide +kernel
theorem dL_cell_5 : decode cL_cell 5 = .ok (.if_icmp .ge 9, 3) := by decide +kernel
theorem dL_cell_8 : decode cL_cell 8 = .ok (.aload_n 0, 1) := by decide +kernel
theorem dL_cell_9 : decode cL_cell 9 = .ok (.iload_n 1, 1) := by decide +kernel
theorem dL_cell_10 : decode cL_cell 10 = .ok (.iaload, 1) := by decide +kernel
theorem dL_cell_11 : decode cL_cell 11 = .ok (.goto 4, 3) := by decide +kernel
theorem dL_cell_14 : decode cL_cell 14 = .ok (.iconst 0, 1) := by decide +kernel
theorem dL_cell_15 : decode cL_cell 15 = .ok (.sipush 1009, 3) := by decide +kernel
theorem dL_cell_18 : decode cL_cell 18 = .ok (.iload_n 1, 1) := by decide +kernel
theorem dL_cell_19 : decode cL_cell 19 = .ok (.imul, 1) := by decide +kernel
theorem dL_cell_20 : decode cL_cell 20 = .ok (.iadd, 1) := by decide +kernel
theorem dL_cell_21 : decode cL_cell 21 = .ok (.imul, 1) := by decide +kernel
theorem dL_cell_22 : decode cL_cell 22 = .ok (.sipush 12345, 3) := by decide +kernel
theorem dL_cell_25 : decode cL_cell 25 = .ok (.iadd, 1) := by decide +kernel
theorem dL_cell_26 : decode cL_cell 26 = .ok (.istore_n 2, 1) := by decide +kernel
theorem dL_cell_27 : decode cL_cell 27 = .ok (.iload_n 2, 1) := by decide +kernel
theorem dL_cell_28 : decode cL_cell 28 = .ok (.iload_n 2, 1) := by decide +kernel
theorem dL_cell_29 : decode cL_cell 29 = .ok (.bipush 13, 2) := by decide +kernel
theorem dL_cell_31 : decode cL_cell 31 = .ok (.iushr, 1) := by decide +kernel
theorem dL_cell_32 : decode cL_cell 32 = .ok (.ixor, 1) := by decide +kernel
theorem dL_cell_33 : decode cL_cell 33 = .ok (.ldc 8, 2) := by decide +kernel
theorem dL_cell_35 : decode cL_cell 35 = .ok (.imul, 1) := by decide +kernel
theorem dL_cell_36 : decode cL_cell 36 = .ok (.istore_n 2, 1) := by decide +kernel
theorem dL_cell_37 : decode cL_cell 37 = .ok (.iload_n 2, 1) := by decide +kernel
theorem dL_cell_38 : decode cL_cell 38 = .ok (.iload_n 2, 1) := by decide +kernel
theorem dL_cell_39 : decode cL_cell 39 = .ok (.bipush 16, 2) := by decide +kernel
theorem dL_cell_41 : decode cL_cell 41 = .ok (.iushr, 1) := by decide +kernel
theorem dL_cell_42 : decode cL_cell 42 = .ok (.ixor, 1) := by decide +kernel
theorem dL_cell_43 : decode cL_cell 43 = .ok (.ireturn, 1) := by decide +kernel
theorem dL_pick_0 : decode cL_pick 0 = .ok (.aload_n 0, 1) := by decide +kernel
theorem dL_pick_1 : decode cL_pick 1 = .ok (.iload_n 1, 1) := by decide +kernel
theorem dL_pick_2 : decode cL_pick 2 = .ok (.invokestatic 9, 3) := by decide +kernel
theorem dL_pick_5 : decode cL_pick 5 = .ok (.bipush 8, 2) := by decide +kernel
theorem dL_pick_7 : decode cL_pick 7 = .ok (.iushr, 1) := by decide +kernel
theorem dL_pick_8 : decode cL_pick 8 = .ok (.iload_n 2, 1) := by decide +kernel
theorem dL_pick_9 : decode cL_pick 9 = .ok (.irem, 1) := by decide +kernel
theorem dL_pick_10 : decode cL_pick 10 = .ok (.ireturn, 1) := by decide +kernel
theorem dL_told_0 : decode cL_told 0 = .ok (.iload_n 0, 1) := by decide +kernel
theorem dL_told_1 : decode cL_told 1 = .ok (.ifCond .eq 7, 3) := by decide +kernel
theorem dL_told_4 : decode cL_told 4 = .ok (.iconst 1, 1) := by decide +kernel
theorem dL_told_5 : decode cL_told 5 = .ok (.goto 4, 3) := by decide +kernel
theorem dL_told_8 : decode cL_told 8 = .ok (.iconst 0, 1) := by decide +kernel
theorem dL_told_9 : decode cL_told 9 = .ok (.ireturn, 1) := by decide +kernel
theorem dL_plain_0 : decode cL_plain 0 = .ok (.iload_n 1, 1) := by decide +kernel
theorem dL_plain_1 : decode cL_plain 1 = .ok (.tableswitch 330 0 25 #[119, 131, 141, 146, 158, 182, 187, 206, 213, 220, 226, 233, 239, 245, 251, 260, 267, 273, 279, 285, 291, 300, 306, 312, 318, 324], 119) := by decide +kernel
theorem dL_plain_120 : decode cL_plain 120 = .ok (.aload_n 0, 1) := by decide +kernel
theorem dL_plain_121 : decode cL_plain 121 = .ok (.iload_n 2, 1) := by decide +kernel
theorem dL_plain_122 : decode cL_plain 122 = .ok (.iload_n 3, 1) := by decide +kernel
theorem dL_plain_123 : decode cL_plain 123 = .ok (.i2c, 1) := by decide +kernel
theorem dL_plain_124 : decode cL_plain 124 = .ok (.iload 4, 2) := by decide +kernel
theorem dL_plain_126 : decode cL_plain 126 = .ok (.iload 5, 2) := by decide +kernel
theorem dL_plain_128 : decode cL_plain 128 = .ok (.invokevirtual 15, 3) := by decide +kernel
theorem dL_plain_131 : decode cL_plain 131 = .ok (.ireturn, 1) := by decide +kernel
theorem dL_plain_132 : decode cL_plain 132 = .ok (.aload_n 0, 1) := by decide +kernel
theorem dL_plain_133 : decode cL_plain 133 = .ok (.iload_n 2, 1) := by decide +kernel
theorem dL_plain_134 : decode cL_plain 134 = .ok (.iload_n 3, 1) := by decide +kernel
theorem dL_plain_135 : decode cL_plain 135 = .ok (.i2c, 1) := by decide +kernel
theorem dL_plain_136 : decode cL_plain 136 = .ok (.iload 4, 2) := by decide +kernel
theorem dL_plain_138 : decode cL_plain 138 = .ok (.invokevirtual 21, 3) := by decide +kernel
theorem dL_plain_141 : decode cL_plain 141 = .ok (.ireturn, 1) := by decide +kernel
theorem dL_plain_142 : decode cL_plain 142 = .ok (.aload_n 0, 1) := by decide +kernel
theorem dL_plain_143 : decode cL_plain 143 = .ok (.invokevirtual 25, 3) := by decide +kernel
theorem dL_plain_146 : decode cL_plain 146 = .ok (.ireturn, 1) := by decide +kernel
theorem dL_plain_147 : decode cL_plain 147 = .ok (.aload_n 0, 1) := by decide +kernel
theorem dL_plain_148 : decode cL_plain 148 = .ok (.iload_n 2, 1) := by decide +kernel
theorem dL_plain_149 : decode cL_plain 149 = .ok (.iload_n 3, 1) := by decide +kernel
theorem dL_plain_150 : decode cL_plain 150 = .ok (.i2c, 1) := by decide +kernel
theorem dL_plain_151 : decode cL_plain 151 = .ok (.iload 4, 2) := by decide +kernel
theorem dL_plain_153 : decode cL_plain 153 = .ok (.iload 5, 2) := by decide +kernel
theorem dL_plain_155 : decode cL_plain 155 = .ok (.invokevirtual 29, 3) := by decide +kernel
theorem dL_plain_158 : decode cL_plain 158 = .ok (.ireturn, 1) := by decide +kernel
theorem dL_plain_159 : decode cL_plain 159 = .ok (.aload_n 0, 1) := by decide +kernel
theorem dL_plain_160 : decode cL_plain 160 = .ok (.iload_n 2, 1) := by decide +kernel
theorem dL_plain_161 : decode cL_plain 161 = .ok (.iload_n 3, 1) := by decide +kernel
theorem dL_plain_162 : decode cL_plain 162 = .ok (.iload 4, 2) := by decide +kernel
theorem dL_plain_164 : decode cL_plain 164 = .ok (.iload 5, 2) := by decide +kernel
theorem dL_plain_166 : decode cL_plain 166 = .ok (.iload 6, 2) := by decide +kernel
theorem dL_plain_168 : decode cL_plain 168 = .ok (.iload 7, 2) := by decide +kernel
theorem dL_plain_170 : decode cL_plain 170 = .ok (.iconst 1, 1) := by decide +kernel
theorem dL_plain_171 : decode cL_plain 171 = .ok (.if_icmp .ne 7, 3) := by decide +kernel
theorem dL_plain_174 : decode cL_plain 174 = .ok (.iconst 1, 1) := by decide +kernel
theorem dL_plain_175 : decode cL_plain 175 = .ok (.goto 4, 3) := by decide +kernel
theorem dL_plain_178 : decode cL_plain 178 = .ok (.iconst 0, 1) := by decide +kernel
theorem dL_plain_179 : decode cL_plain 179 = .ok (.invokevirtual 32, 3) := by decide +kernel
theorem dL_plain_182 : decode cL_plain 182 = .ok (.ireturn, 1) := by decide +kernel
theorem dL_plain_183 : decode cL_plain 183 = .ok (.aload_n 0, 1) := by decide +kernel
theorem dL_plain_184 : decode cL_plain 184 = .ok (.invokevirtual 36, 3) := by decide +kernel
theorem dL_plain_187 : decode cL_plain 187 = .ok (.ireturn, 1) := by decide +kernel
theorem dL_plain_188 : decode cL_plain 188 = .ok (.aload_n 0, 1) := by decide +kernel
theorem dL_plain_189 : decode cL_plain 189 = .ok (.iload_n 2, 1) := by decide +kernel
theorem dL_plain_190 : decode cL_plain 190 = .ok (.iload_n 3, 1) := by decide +kernel
theorem dL_plain_191 : decode cL_plain 191 = .ok (.iconst 1, 1) := by decide +kernel
theorem dL_plain_192 : decode cL_plain 192 = .ok (.if_icmp .ne 7, 3) := by decide +kernel
theorem dL_plain_195 : decode cL_plain 195 = .ok (.iconst 1, 1) := by decide +kernel
theorem dL_plain_196 : decode cL_plain 196 = .ok (.goto 4, 3) := by decide +kernel
theorem dL_plain_199 : decode cL_plain 199 = .ok (.iconst 0, 1) := by decide +kernel
theorem dL_plain_200 : decode cL_plain 200 = .ok (.invokevirtual 39, 3) := by decide +kernel
theorem dL_plain_203 : decode cL_plain 203 = .ok (.invokestatic 43, 3) := by decide +kernel
theorem dL_plain_206 : decode cL_plain 206 = .ok (.ireturn, 1) := by decide +kernel
theorem dL_plain_207 : decode cL_plain 207 = .ok (.aload_n 0, 1) := by decide +kernel
theorem dL_plain_208 : decode cL_plain 208 = .ok (.iload_n 2, 1) := by decide +kernel
theorem dL_plain_209 : decode cL_plain 209 = .ok (.iload_n 3, 1) := by decide +kernel
theorem dL_plain_210 : decode cL_plain 210 = .ok (.invokevirtual 47, 3) := by decide +kernel
theorem dL_plain_213 : decode cL_plain 213 = .ok (.ireturn, 1) := by decide +kernel
theorem dL_plain_214 : decode cL_plain 214 = .ok (.aload_n 0, 1) := by decide +kernel
theorem dL_plain_215 : decode cL_plain 215 = .ok (.iload_n 2, 1) := by decide +kernel
theorem dL_plain_216 : decode cL_plain 216 = .ok (.iload_n 3, 1) := by decide +kernel
theorem dL_plain_217 : decode cL_plain 217 = .ok (.invokevirtual 51, 3) := by decide +kernel
theorem dL_plain_220 : decode cL_plain 220 = .ok (.ireturn, 1) := by decide +kernel
theorem dL_plain_221 : decode cL_plain 221 = .ok (.aload_n 0, 1) := by decide +kernel
theorem dL_plain_222 : decode cL_plain 222 = .ok (.iload_n 2, 1) := by decide +kernel
theorem dL_plain_223 : decode cL_plain 223 = .ok (.invokevirtual 54, 3) := by decide +kernel
theorem dL_plain_226 : decode cL_plain 226 = .ok (.ireturn, 1) := by decide +kernel
theorem dL_plain_227 : decode cL_plain 227 = .ok (.aload_n 0, 1) := by decide +kernel
theorem dL_plain_228 : decode cL_plain 228 = .ok (.iload_n 2, 1) := by decide +kernel
theorem dL_plain_229 : decode cL_plain 229 = .ok (.iload_n 3, 1) := by decide +kernel
theorem dL_plain_230 : decode cL_plain 230 = .ok (.invokevirtual 58, 3) := by decide +kernel
theorem dL_plain_233 : decode cL_plain 233 = .ok (.ireturn, 1) := by decide +kernel
theorem dL_plain_234 : decode cL_plain 234 = .ok (.aload_n 0, 1) := by decide +kernel
theorem dL_plain_235 : decode cL_plain 235 = .ok (.iload_n 2, 1) := by decide +kernel
theorem dL_plain_236 : decode cL_plain 236 = .ok (.invokevirtual 61, 3) := by decide +kernel
theorem dL_plain_239 : decode cL_plain 239 = .ok (.ireturn, 1) := by decide +kernel
theorem dL_plain_240 : decode cL_plain 240 = .ok (.aload_n 0, 1) := by decide +kernel
theorem dL_plain_241 : decode cL_plain 241 = .ok (.iload_n 2, 1) := by decide +kernel
theorem dL_plain_242 : decode cL_plain 242 = .ok (.invokevirtual 64, 3) := by decide +kernel
theorem dL_plain_245 : decode cL_plain 245 = .ok (.ireturn, 1) := by decide +kernel
theorem dL_plain_246 : decode cL_plain 246 = .ok (.aload_n 0, 1) := by decide +kernel
theorem dL_plain_247 : decode cL_plain 247 = .ok (.iload_n 2, 1) := by decide +kernel
theorem dL_plain_248 : decode cL_plain 248 = .ok (.invokevirtual 67, 3) := by decide +kernel
theorem dL_plain_251 : decode cL_plain 251 = .ok (.ireturn, 1) := by decide +kernel
theorem dL_plain_252 : decode cL_plain 252 = .ok (.aload_n 0, 1) := by decide +kernel
theorem dL_plain_253 : decode cL_plain 253 = .ok (.iload_n 2, 1) := by decide +kernel
theorem dL_plain_254 : decode cL_plain 254 = .ok (.invokevirtual 70, 3) := by decide +kernel
theorem dL_plain_257 : decode cL_plain 257 = .ok (.invokestatic 43, 3) := by decide +kernel
theorem dL_plain_260 : decode cL_plain 260 = .ok (.ireturn, 1) := by decide +kernel
theorem dL_plain_261 : decode cL_plain 261 = .ok (.aload_n 0, 1) := by decide +kernel
theorem dL_plain_262 : decode cL_plain 262 = .ok (.iload_n 2, 1) := by decide +kernel
theorem dL_plain_263 : decode cL_plain 263 = .ok (.iload_n 3, 1) := by decide +kernel
theorem dL_plain_264 : decode cL_plain 264 = .ok (.invokevirtual 74, 3) := by decide +kernel
theorem dL_plain_267 : decode cL_plain 267 = .ok (.ireturn, 1) := by decide +kernel
theorem dL_plain_268 : decode cL_plain 268 = .ok (.aload_n 0, 1) := by decide +kernel
theorem dL_plain_269 : decode cL_plain 269 = .ok (.iload_n 2, 1) := by decide +kernel
theorem dL_plain_270 : decode cL_plain 270 = .ok (.invokevirtual 77, 3) := by decide +kernel
theorem dL_plain_273 : decode cL_plain 273 = .ok (.ireturn, 1) := by decide +kernel
theorem dL_plain_274 : decode cL_plain 274 = .ok (.aload_n 0, 1) := by decide +kernel
theorem dL_plain_275 : decode cL_plain 275 = .ok (.iload_n 2, 1) := by decide +kernel
theorem dL_plain_276 : decode cL_plain 276 = .ok (.invokevirtual 80, 3) := by decide +kernel
theorem dL_plain_279 : decode cL_plain 279 = .ok (.ireturn, 1) := by decide +kernel
theorem dL_plain_280 : decode cL_plain 280 = .ok (.aload_n 0, 1) := by decide +kernel
theorem dL_plain_281 : decode cL_plain 281 = .ok (.iload_n 2, 1) := by decide +kernel
theorem dL_plain_282 : decode cL_plain 282 = .ok (.invokevirtual 83, 3) := by decide +kernel
theorem dL_plain_285 : decode cL_plain 285 = .ok (.ireturn, 1) := by decide +kernel
theorem dL_plain_286 : decode cL_plain 286 = .ok (.aload_n 0, 1) := by decide +kernel
theorem dL_plain_287 : decode cL_plain 287 = .ok (.iload_n 2, 1) := by decide +kernel
theorem dL_plain_288 : decode cL_plain 288 = .ok (.invokevirtual 86, 3) := by decide +kernel
theorem dL_plain_291 : decode cL_plain 291 = .ok (.ireturn, 1) := by decide +kernel
theorem dL_plain_292 : decode cL_plain 292 = .ok (.aload_n 0, 1) := by decide +kernel
theorem dL_plain_293 : decode cL_plain 293 = .ok (.iload_n 2, 1) := by decide +kernel
theorem dL_plain_294 : decode cL_plain 294 = .ok (.invokevirtual 89, 3) := by decide +kernel
theorem dL_plain_297 : decode cL_plain 297 = .ok (.invokestatic 43, 3) := by decide +kernel
theorem dL_plain_300 : decode cL_plain 300 = .ok (.ireturn, 1) := by decide +kernel
theorem dL_plain_301 : decode cL_plain 301 = .ok (.aload_n 0, 1) := by decide +kernel
theorem dL_plain_302 : decode cL_plain 302 = .ok (.iload_n 2, 1) := by decide +kernel
theorem dL_plain_303 : decode cL_plain 303 = .ok (.invokevirtual 92, 3) := by decide +kernel
theorem dL_plain_306 : decode cL_plain 306 = .ok (.ireturn, 1) := by decide +kernel
theorem dL_plain_307 : decode cL_plain 307 = .ok (.aload_n 0, 1) := by decide +kernel
theorem dL_plain_308 : decode cL_plain 308 = .ok (.iload_n 2, 1) := by decide +kernel
theorem dL_plain_309 : decode cL_plain 309 = .ok (.invokevirtual 95, 3) := by decide +kernel
theorem dL_plain_312 : decode cL_plain 312 = .ok (.ireturn, 1) := by decide +kernel
theorem dL_plain_313 : decode cL_plain 313 = .ok (.aload_n 0, 1) := by decide +kernel
theorem dL_plain_314 : decode cL_plain 314 = .ok (.iload_n 2, 1) := by decide +kernel
theorem dL_plain_315 : decode cL_plain 315 = .ok (.invokevirtual 99, 3) := by decide +kernel
theorem dL_plain_318 : decode cL_plain 318 = .ok (.ireturn, 1) := by decide +kernel
theorem dL_plain_319 : decode cL_plain 319 = .ok (.aload_n 0, 1) := by decide +kernel
theorem dL_plain_320 : decode cL_plain 320 = .ok (.iload_n 2, 1) := by decide +kernel
theorem dL_plain_321 : decode cL_plain 321 = .ok (.invokevirtual 102, 3) := by decide +kernel
theorem dL_plain_324 : decode cL_plain 324 = .ok (.ireturn, 1) := by decide +kernel
theorem dL_plain_325 : decode cL_plain 325 = .ok (.aload_n 0, 1) := by decide +kernel
theorem dL_plain_326 : decode cL_plain 326 = .ok (.iload_n 2, 1) := by decide +kernel
theorem dL_plain_327 : decode cL_plain 327 = .ok (.invokevirtual 105, 3) := by decide +kernel
theorem dL_plain_330 : decode cL_plain 330 = .ok (.ireturn, 1) := by decide +kernel
theorem dL_plain_331 : decode cL_plain 331 = .ok (.aload_n 0, 1) := by decide +kernel
theorem dL_plain_332 : decode cL_plain 332 = .ok (.iload_n 2, 1) := by decide +kernel
theorem dL_plain_333 : decode cL_plain 333 = .ok (.invokevirtual 108, 3) := by decide +kernel
theorem dL_plain_336 : decode cL_plain 336 = .ok (.ireturn, 1) := by decide +kernel
theorem dL_deed_0 : decode cL_deed 0 = .ok (.aload_n 0, 1) := by decide +kernel
theorem dL_deed_1 : decode cL_deed 1 = .ok (.iload_n 1, 1) := by decide +kernel
theorem dL_deed_2 : decode cL_deed 2 = .ok (.iload_n 2, 1) := by decide +kernel
theorem dL_deed_3 : decode cL_deed 3 = .ok (.iload_n 3, 1) := by decide +kernel
theorem dL_deed_4 : decode cL_deed 4 = .ok (.iload 4, 2) := by decide +kernel
theorem dL_deed_6 : decode cL_deed 6 = .ok (.iload 5, 2) := by decide +kernel
theorem dL_deed_8 : decode cL_deed 8 = .ok (.iload 6, 2) := by decide +kernel
theorem dL_deed_10 : decode cL_deed 10 = .ok (.iload 7, 2) := by decide +kernel
theorem dL_deed_12 : decode cL_deed 12 = .ok (.invokestatic 111, 3) := by decide +kernel
theorem dL_deed_15 : decode cL_deed 15 = .ok (.ireturn, 1) := by decide +kernel
theorem dL_deed_16 : decode cL_deed 16 = .ok (.astore 8, 2) := by decide +kernel
theorem dL_deed_18 : decode cL_deed 18 = .ok (.sipush (-2001), 3) := by decide +kernel
theorem dL_deed_21 : decode cL_deed 21 = .ok (.ireturn, 1) := by decide +kernel
theorem dL_deed_22 : decode cL_deed 22 = .ok (.astore 8, 2) := by decide +kernel
theorem dL_deed_24 : decode cL_deed 24 = .ok (.sipush (-2002), 3) := by decide +kernel
theorem dL_deed_27 : decode cL_deed 27 = .ok (.ireturn, 1) := by decide +kernel
theorem dL_deed_28 : decode cL_deed 28 = .ok (.astore 8, 2) := by decide +kernel
theorem dL_deed_30 : decode cL_deed 30 = .ok (.sipush (-2004), 3) := by decide +kernel
theorem dL_deed_33 : decode cL_deed 33 = .ok (.ireturn, 1) := by decide +kernel
theorem dL_deed_34 : decode cL_deed 34 = .ok (.astore 8, 2) := by decide +kernel
theorem dL_deed_36 : decode cL_deed 36 = .ok (.sipush (-2005), 3) := by decide +kernel
theorem dL_deed_39 : decode cL_deed 39 = .ok (.ireturn, 1) := by decide +kernel
theorem dL_deed_40 : decode cL_deed 40 = .ok (.astore 8, 2) := by decide +kernel
theorem dL_deed_42 : decode cL_deed 42 = .ok (.sipush (-2003), 3) := by decide +kernel
theorem dL_deed_45 : decode cL_deed 45 = .ok (.ireturn, 1) := by decide +kernel
theorem dL_ask_0 : decode cL_ask 0 = .ok (.aload_n 0, 1) := by decide +kernel
theorem dL_ask_1 : decode cL_ask 1 = .ok (.iload_n 1, 1) := by decide +kernel
theorem dL_ask_2 : decode cL_ask 2 = .ok (.iload_n 2, 1) := by decide +kernel
theorem dL_ask_3 : decode cL_ask 3 = .ok (.iconst 0, 1) := by decide +kernel
theorem dL_ask_4 : decode cL_ask 4 = .ok (.iconst 0, 1) := by decide +kernel
theorem dL_ask_5 : decode cL_ask 5 = .ok (.iconst 0, 1) := by decide +kernel
theorem dL_ask_6 : decode cL_ask 6 = .ok (.iconst 0, 1) := by decide +kernel
theorem dL_ask_7 : decode cL_ask 7 = .ok (.iconst 0, 1) := by decide +kernel
theorem dL_ask_8 : decode cL_ask 8 = .ok (.invokestatic 125, 3) := by decide +kernel
theorem dL_ask_11 : decode cL_ask 11 = .ok (.ireturn, 1) := by decide +kernel
theorem dL_input_0 : decode cL_input 0 = .ok (.aload_n 0, 1) := by decide +kernel
theorem dL_input_1 : decode cL_input 1 = .ok (.iload_n 1, 1) := by decide +kernel
theorem dL_input_2 : decode cL_input 2 = .ok (.iload_n 2, 1) := by decide +kernel
theorem dL_input_3 : decode cL_input 3 = .ok (.iconst 1, 1) := by decide +kernel
theorem dL_input_4 : decode cL_input 4 = .ok (.if_icmp .ne 7, 3) := by decide +kernel
theorem dL_input_7 : decode cL_input 7 = .ok (.iconst 1, 1) := by decide +kernel
theorem dL_input_8 : decode cL_input 8 = .ok (.goto 4, 3) := by decide +kernel
theorem dL_input_11 : decode cL_input 11 = .ok (.iconst 0, 1) := by decide +kernel
theorem dL_input_12 : decode cL_input 12 = .ok (.invokevirtual 39, 3) := by decide +kernel
theorem dL_input_15 : decode cL_input 15 = .ok (.pop, 1) := by decide +kernel
theorem dL_input_16 : decode cL_input 16 = .ok (.return_, 1) := by decide +kernel
theorem dL_build_0 : decode cL_build 0 = .ok (.aload_n 0, 1) := by decide +kernel
theorem dL_build_1 : decode cL_build 1 = .ok (.invokevirtual 128, 3) := by decide +kernel
theorem dL_build_4 : decode cL_build 4 = .ok (.pop, 1) := by decide +kernel
theorem dL_build_5 : decode cL_build 5 = .ok (.iconst 2, 1) := by decide +kernel
theorem dL_build_6 : decode cL_build 6 = .ok (.aload_n 1, 1) := by decide +kernel
theorem dL_build_7 : decode cL_build 7 = .ok (.iload_n 2, 1) := by decide +kernel
theorem dL_build_8 : decode cL_build 8 = .ok (.bipush 8, 2) := by decide +kernel
theorem dL_build_10 : decode cL_build 10 = .ok (.invokestatic 131, 3) := by decide +kernel
theorem dL_build_13 : decode cL_build 13 = .ok (.iadd, 1) := by decide +kernel
theorem dL_build_14 : decode cL_build 14 = .ok (.istore_n 3, 1) := by decide +kernel
theorem dL_build_15 : decode cL_build 15 = .ok (.iconst 0, 1) := by decide +kernel
theorem dL_build_16 : decode cL_build 16 = .ok (.istore 4, 2) := by decide +kernel
theorem dL_build_18 : decode cL_build 18 = .ok (.iload 4, 2) := by decide +kernel
theorem dL_build_20 : decode cL_build 20 = .ok (.iload_n 3, 1) := by decide +kernel
theorem dL_build_21 : decode cL_build 21 = .ok (.if_icmp .ge 249, 3) := by decide +kernel
theorem dL_build_24 : decode cL_build 24 = .ok (.iload_n 2, 1) := by decide +kernel
theorem dL_build_25 : decode cL_build 25 = .ok (.iconst 1, 1) := by decide +kernel
theorem dL_build_26 : decode cL_build 26 = .ok (.iadd, 1) := by decide +kernel
theorem dL_build_27 : decode cL_build 27 = .ok (.bipush 12, 2) := by decide +kernel
theorem dL_build_29 : decode cL_build 29 = .ok (.iload 4, 2) := by decide +kernel
theorem dL_build_31 : decode cL_build 31 = .ok (.imul, 1) := by decide +kernel
theorem dL_build_32 : decode cL_build 32 = .ok (.iadd, 1) := by decide +kernel
theorem dL_build_33 : decode cL_build 33 = .ok (.istore 5, 2) := by decide +kernel
theorem dL_build_35 : decode cL_build 35 = .ok (.ldc 135, 2) := by decide +kernel
theorem dL_build_37 : decode cL_build 37 = .ok (.aload_n 1, 1) := by decide +kernel
theorem dL_build_38 : decode cL_build 38 = .ok (.iload 5, 2) := by decide +kernel
theorem dL_build_40 : decode cL_build 40 = .ok (.bipush 12, 2) := by decide +kernel
theorem dL_build_42 : decode cL_build 42 = .ok (.invokestatic 131, 3) := by decide +kernel
theorem dL_build_45 : decode cL_build 45 = .ok (.invokevirtual 137, 3) := by decide +kernel
theorem dL_build_48 : decode cL_build 48 = .ok (.istore 6, 2) := by decide +kernel
theorem dL_build_50 : decode cL_build 50 = .ok (.ldc 142, 2) := by decide +kernel
theorem dL_build_52 : decode cL_build 52 = .ok (.iload 6, 2) := by decide +kernel
theorem dL_build_54 : decode cL_build 54 = .ok (.invokevirtual 144, 3) := by decide +kernel
theorem dL_build_57 : decode cL_build 57 = .ok (.ifCond .lt 19, 3) := by decide +kernel
theorem dL_build_60 : decode cL_build 60 = .ok (.bipush 8, 2) := by decide +kernel
theorem dL_build_62 : decode cL_build 62 = .ok (.aload_n 1, 1) := by decide +kernel
theorem dL_build_63 : decode cL_build 63 = .ok (.iload 5, 2) := by decide +kernel
theorem dL_build_65 : decode cL_build 65 = .ok (.iconst 1, 1) := by decide +kernel
theorem dL_build_66 : decode cL_build 66 = .ok (.iadd, 1) := by decide +kernel
theorem dL_build_67 : decode cL_build 67 = .ok (.bipush 24, 2) := by decide +kernel
theorem dL_build_69 : decode cL_build 69 = .ok (.invokestatic 131, 3) := by decide +kernel
theorem dL_build_72 : decode cL_build 72 = .ok (.iadd, 1) := by decide +kernel
theorem dL_build_73 : decode cL_build 73 = .ok (.goto 13, 3) := by decide +kernel
theorem dL_build_76 : decode cL_build 76 = .ok (.aload_n 1, 1) := by decide +kernel
theorem dL_build_77 : decode cL_build 77 = .ok (.iload 5, 2) := by decide +kernel
theorem dL_build_79 : decode cL_build 79 = .ok (.iconst 1, 1) := by decide +kernel
theorem dL_build_80 : decode cL_build 80 = .ok (.iadd, 1) := by decide +kernel
theorem dL_build_81 : decode cL_build 81 = .ok (.bipush 8, 2) := by decide +kernel
theorem dL_build_83 : decode cL_build 83 = .ok (.invokestatic 131, 3) := by decide +kernel
theorem dL_build_86 : decode cL_build 86 = .ok (.istore 7, 2) := by decide +kernel
theorem dL_build_88 : decode cL_build 88 = .ok (.ldc 147, 2) := by decide +kernel
theorem dL_build_90 : decode cL_build 90 = .ok (.iload 6, 2) := by decide +kernel
theorem dL_build_92 : decode cL_build 92 = .ok (.invokevirtual 144, 3) := by decide +kernel
theorem dL_build_95 : decode cL_build 95 = .ok (.ifCond .lt 18, 3) := by decide +kernel
theorem dL_build_98 : decode cL_build 98 = .ok (.iconst 1, 1) := by decide +kernel
theorem dL_build_99 : decode cL_build 99 = .ok (.aload_n 1, 1) := by decide +kernel
theorem dL_build_100 : decode cL_build 100 = .ok (.iload 5, 2) := by decide +kernel
theorem dL_build_102 : decode cL_build 102 = .ok (.iconst 2, 1) := by decide +kernel
theorem dL_build_103 : decode cL_build 103 = .ok (.iadd, 1) := by decide +kernel
theorem dL_build_104 : decode cL_build 104 = .ok (.bipush 25, 2) := by decide +kernel
theorem dL_build_106 : decode cL_build 106 = .ok (.invokestatic 131, 3) := by decide +kernel
theorem dL_build_109 : decode cL_build 109 = .ok (.iadd, 1) := by decide +kernel
theorem dL_build_110 : decode cL_build 110 = .ok (.goto 56, 3) := by decide +kernel
theorem dL_build_113 : decode cL_build 113 = .ok (.iload 6, 2) := by decide +kernel
theorem dL_build_115 : decode cL_build 115 = .ok (.bipush 107, 2) := by decide +kernel
theorem dL_build_117 : decode cL_build 117 = .ok (.if_icmp .ne 18, 3) := by decide +kernel
theorem dL_build_120 : decode cL_build 120 = .ok (.aload_n 1, 1) := by decide +kernel
theorem dL_build_121 : decode cL_build 121 = .ok (.iload 5, 2) := by decide +kernel
theorem dL_build_123 : decode cL_build 123 = .ok (.iconst 2, 1) := by decide +kernel
theorem dL_build_124 : decode cL_build 124 = .ok (.iadd, 1) := by decide +kernel
theorem dL_build_125 : decode cL_build 125 = .ok (.bipush 9, 2) := by decide +kernel
theorem dL_build_127 : decode cL_build 127 = .ok (.invokestatic 131, 3) := by decide +kernel
theorem dL_build_130 : decode cL_build 130 = .ok (.iconst 4, 1) := by decide +kernel
theorem dL_build_131 : decode cL_build 131 = .ok (.isub, 1) := by decide +kernel
theorem dL_build_132 : decode cL_build 132 = .ok (.goto 34, 3) := by decide +kernel
theorem dL_build_135 : decode cL_build 135 = .ok (.iload 6, 2) := by decide +kernel
theorem dL_build_137 : decode cL_build 137 = .ok (.bipush 74, 2) := by decide +kernel
theorem dL_build_139 : decode cL_build 139 = .ok (.if_icmp .ne 17, 3) := by decide +kernel
theorem dL_build_142 : decode cL_build 142 = .ok (.aload_n 1, 1) := by decide +kernel
theorem dL_build_143 : decode cL_build 143 = .ok (.iload 5, 2) := by decide +kernel
theorem dL_build_145 : decode cL_build 145 = .ok (.iconst 2, 1) := by decide +kernel
theorem dL_build_146 : decode cL_build 146 = .ok (.iadd, 1) := by decide +kernel
theorem dL_build_147 : decode cL_build 147 = .ok (.iload_n 3, 1) := by decide +kernel
theorem dL_build_148 : decode cL_build 148 = .ok (.iconst 1, 1) := by decide +kernel
theorem dL_build_149 : decode cL_build 149 = .ok (.iadd, 1) := by decide +kernel
theorem dL_build_150 : decode cL_build 150 = .ok (.invokestatic 131, 3) := by decide +kernel
theorem dL_build_153 : decode cL_build 153 = .ok (.goto 13, 3) := by decide +kernel
theorem dL_build_156 : decode cL_build 156 = .ok (.aload_n 1, 1) := by decide +kernel
theorem dL_build_157 : decode cL_build 157 = .ok (.iload 5, 2) := by decide +kernel
theorem dL_build_159 : decode cL_build 159 = .ok (.iconst 2, 1) := by decide +kernel
theorem dL_build_160 : decode cL_build 160 = .ok (.iadd, 1) := by decide +kernel
theorem dL_build_161 : decode cL_build 161 = .ok (.bipush 8, 2) := by decide +kernel
theorem dL_build_163 : decode cL_build 163 = .ok (.invokestatic 131, 3) := by decide +kernel
theorem dL_build_166 : decode cL_build 166 = .ok (.istore 8, 2) := by decide +kernel
theorem dL_build_168 : decode cL_build 168 = .ok (.aload_n 0, 1) := by decide +kernel
theorem dL_build_169 : decode cL_build 169 = .ok (.iconst 0, 1) := by decide +kernel
theorem dL_build_170 : decode cL_build 170 = .ok (.aload_n 1, 1) := by decide +kernel
theorem dL_build_171 : decode cL_build 171 = .ok (.iload 5, 2) := by decide +kernel
theorem dL_build_173 : decode cL_build 173 = .ok (.iconst 3, 1) := by decide +kernel
theorem dL_build_174 : decode cL_build 174 = .ok (.iadd, 1) := by decide +kernel
theorem dL_build_175 : decode cL_build 175 = .ok (.iconst 3, 1) := by decide +kernel
theorem dL_build_176 : decode cL_build 176 = .ok (.invokestatic 131, 3) := by decide +kernel
theorem dL_build_179 : decode cL_build 179 = .ok (.ifCond .ne 7, 3) := by decide +kernel
theorem dL_build_182 : decode cL_build 182 = .ok (.iconst 1, 1) := by decide +kernel
theorem dL_build_183 : decode cL_build 183 = .ok (.goto 4, 3) := by decide +kernel
theorem dL_build_186 : decode cL_build 186 = .ok (.iconst 0, 1) := by decide +kernel
theorem dL_build_187 : decode cL_build 187 = .ok (.iload 6, 2) := by decide +kernel
theorem dL_build_189 : decode cL_build 189 = .ok (.iload 7, 2) := by decide +kernel
theorem dL_build_191 : decode cL_build 191 = .ok (.iload 8, 2) := by decide +kernel
theorem dL_build_193 : decode cL_build 193 = .ok (.iconst 0, 1) := by decide +kernel
theorem dL_build_194 : decode cL_build 194 = .ok (.iconst 0, 1) := by decide +kernel
theorem dL_build_195 : decode cL_build 195 = .ok (.invokestatic 125, 3) := by decide +kernel
theorem dL_build_198 : decode cL_build 198 = .ok (.istore 9, 2) := by decide +kernel
theorem dL_build_200 : decode cL_build 200 = .ok (.aload_n 1, 1) := by decide +kernel
theorem dL_build_201 : decode cL_build 201 = .ok (.iload 5, 2) := by decide +kernel
theorem dL_build_203 : decode cL_build 203 = .ok (.iconst 4, 1) := by decide +kernel
theorem dL_build_204 : decode cL_build 204 = .ok (.iadd, 1) := by decide +kernel
theorem dL_build_205 : decode cL_build 205 = .ok (.iconst 3, 1) := by decide +kernel
theorem dL_build_206 : decode cL_build 206 = .ok (.invokestatic 131, 3) := by decide +kernel
theorem dL_build_209 : decode cL_build 209 = .ok (.istore 10, 2) := by decide +kernel
theorem dL_build_211 : decode cL_build 211 = .ok (.iload 10, 2) := by decide +kernel
theorem dL_build_213 : decode cL_build 213 = .ok (.ifCond .le 51, 3) := by decide +kernel
theorem dL_build_216 : decode cL_build 216 = .ok (.aload_n 0, 1) := by decide +kernel
theorem dL_build_217 : decode cL_build 217 = .ok (.iconst 1, 1) := by decide +kernel
theorem dL_build_218 : decode cL_build 218 = .ok (.iload 9, 2) := by decide +kernel
theorem dL_build_220 : decode cL_build 220 = .ok (.ldc 149, 2) := by decide +kernel
theorem dL_build_222 : decode cL_build 222 = .ok (.aload_n 1, 1) := by decide +kernel
theorem dL_build_223 : decode cL_build 223 = .ok (.iload 5, 2) := by decide +kernel
theorem dL_build_225 : decode cL_build 225 = .ok (.iconst 4, 1) := by decide +kernel
theorem dL_build_226 : decode cL_build 226 = .ok (.iadd, 1) := by decide +kernel
theorem dL_build_227 : decode cL_build 227 = .ok (.iload 10, 2) := by decide +kernel
theorem dL_build_229 : decode cL_build 229 = .ok (.iadd, 1) := by decide +kernel
theorem dL_build_230 : decode cL_build 230 = .ok (.iconst 4, 1) := by decide +kernel
theorem dL_build_231 : decode cL_build 231 = .ok (.invokestatic 131, 3) := by decide +kernel
theorem dL_build_234 : decode cL_build 234 = .ok (.invokevirtual 137, 3) := by decide +kernel
theorem dL_build_237 : decode cL_build 237 = .ok (.aload_n 1, 1) := by decide +kernel
theorem dL_build_238 : decode cL_build 238 = .ok (.iload 5, 2) := by decide +kernel
theorem dL_build_240 : decode cL_build 240 = .ok (.bipush 6, 2) := by decide +kernel
theorem dL_build_242 : decode cL_build 242 = .ok (.iadd, 1) := by decide +kernel
theorem dL_build_243 : decode cL_build 243 = .ok (.iload 10, 2) := by decide +kernel
theorem dL_build_245 : decode cL_build 245 = .ok (.iadd, 1) := by decide +kernel
theorem dL_build_246 : decode cL_build 246 = .ok (.bipush 32, 2) := by decide +kernel
theorem dL_build_248 : decode cL_build 248 = .ok (.invokestatic 131, 3) := by decide +kernel
theorem dL_build_251 : decode cL_build 251 = .ok (.iconst 0, 1) := by decide +kernel
theorem dL_build_252 : decode cL_build 252 = .ok (.iconst 0, 1) := by decide +kernel
theorem dL_build_253 : decode cL_build 253 = .ok (.iconst 0, 1) := by decide +kernel
theorem dL_build_254 : decode cL_build 254 = .ok (.invokestatic 125, 3) := by decide +kernel
theorem dL_build_257 : decode cL_build 257 = .ok (.pop, 1) := by decide +kernel
theorem dL_build_258 : decode cL_build 258 = .ok (.iinc 10 (-1), 3) := by decide +kernel
theorem dL_build_261 : decode cL_build 261 = .ok (.goto (-50), 3) := by decide +kernel
theorem dL_build_264 : decode cL_build 264 = .ok (.iinc 4 1, 3) := by decide +kernel
theorem dL_build_267 : decode cL_build 267 = .ok (.goto (-249), 3) := by decide +kernel
theorem dL_build_270 : decode cL_build 270 = .ok (.iconst 1, 1) := by decide +kernel
theorem dL_build_271 : decode cL_build 271 = .ok (.aload_n 1, 1) := by decide +kernel
theorem dL_build_272 : decode cL_build 272 = .ok (.iload_n 2, 1) := by decide +kernel
theorem dL_build_273 : decode cL_build 273 = .ok (.sipush 130, 3) := by decide +kernel
theorem dL_build_276 : decode cL_build 276 = .ok (.iadd, 1) := by decide +kernel
theorem dL_build_277 : decode cL_build 277 = .ok (.iconst 5, 1) := by decide +kernel
theorem dL_build_278 : decode cL_build 278 = .ok (.invokestatic 131, 3) := by decide +kernel
theorem dL_build_281 : decode cL_build 281 = .ok (.iadd, 1) := by decide +kernel
theorem dL_build_282 : decode cL_build 282 = .ok (.istore 4, 2) := by decide +kernel
theorem dL_build_284 : decode cL_build 284 = .ok (.iconst 0, 1) := by decide +kernel
theorem dL_build_285 : decode cL_build 285 = .ok (.istore 5, 2) := by decide +kernel
theorem dL_build_287 : decode cL_build 287 = .ok (.iload 5, 2) := by decide +kernel
theorem dL_build_289 : decode cL_build 289 = .ok (.iload 4, 2) := by decide +kernel
theorem dL_build_291 : decode cL_build 291 = .ok (.if_icmp .ge 75, 3) := by decide +kernel
theorem dL_build_294 : decode cL_build 294 = .ok (.aload_n 0, 1) := by decide +kernel
theorem dL_build_295 : decode cL_build 295 = .ok (.invokevirtual 25, 3) := by decide +kernel
theorem dL_build_298 : decode cL_build 298 = .ok (.pop, 1) := by decide +kernel
theorem dL_build_299 : decode cL_build 299 = .ok (.aload_n 0, 1) := by decide +kernel
theorem dL_build_300 : decode cL_build 300 = .ok (.iconst 3, 1) := by decide +kernel
theorem dL_build_301 : decode cL_build 301 = .ok (.iload 5, 2) := by decide +kernel
theorem dL_build_303 : decode cL_build 303 = .ok (.ldc 151, 2) := by decide +kernel
theorem dL_build_305 : decode cL_build 305 = .ok (.aload_n 1, 1) := by decide +kernel
theorem dL_build_306 : decode cL_build 306 = .ok (.iload_n 2, 1) := by decide +kernel
theorem dL_build_307 : decode cL_build 307 = .ok (.sipush 131, 3) := by decide +kernel
theorem dL_build_310 : decode cL_build 310 = .ok (.iadd, 1) := by decide +kernel
theorem dL_build_311 : decode cL_build 311 = .ok (.iload 5, 2) := by decide +kernel
theorem dL_build_313 : decode cL_build 313 = .ok (.iadd, 1) := by decide +kernel
theorem dL_build_314 : decode cL_build 314 = .ok (.iconst 5, 1) := by decide +kernel
theorem dL_build_315 : decode cL_build 315 = .ok (.invokestatic 131, 3) := by decide +kernel
theorem dL_build_318 : decode cL_build 318 = .ok (.invokevirtual 137, 3) := by decide +kernel
theorem dL_build_321 : decode cL_build 321 = .ok (.bipush 8, 2) := by decide +kernel
theorem dL_build_323 : decode cL_build 323 = .ok (.aload_n 1, 1) := by decide +kernel
theorem dL_build_324 : decode cL_build 324 = .ok (.iload_n 2, 1) := by decide +kernel
theorem dL_build_325 : decode cL_build 325 = .ok (.sipush 140, 3) := by decide +kernel
theorem dL_build_328 : decode cL_build 328 = .ok (.iadd, 1) := by decide +kernel
theorem dL_build_329 : decode cL_build 329 = .ok (.iload 5, 2) := by decide +kernel
theorem dL_build_331 : decode cL_build 331 = .ok (.iadd, 1) := by decide +kernel
theorem dL_build_332 : decode cL_build 332 = .ok (.bipush 24, 2) := by decide +kernel
theorem dL_build_334 : decode cL_build 334 = .ok (.invokestatic 131, 3) := by decide +kernel
theorem dL_build_337 : decode cL_build 337 = .ok (.iadd, 1) := by decide +kernel
theorem dL_build_338 : decode cL_build 338 = .ok (.iconst 1, 1) := by decide +kernel
theorem dL_build_339 : decode cL_build 339 = .ok (.aload_n 1, 1) := by decide +kernel
theorem dL_build_340 : decode cL_build 340 = .ok (.iload_n 2, 1) := by decide +kernel
theorem dL_build_341 : decode cL_build 341 = .ok (.sipush 150, 3) := by decide +kernel
theorem dL_build_344 : decode cL_build 344 = .ok (.iadd, 1) := by decide +kernel
theorem dL_build_345 : decode cL_build 345 = .ok (.iload 5, 2) := by decide +kernel
theorem dL_build_347 : decode cL_build 347 = .ok (.iadd, 1) := by decide +kernel
theorem dL_build_348 : decode cL_build 348 = .ok (.bipush 40, 2) := by decide +kernel
theorem dL_build_350 : decode cL_build 350 = .ok (.invokestatic 131, 3) := by decide +kernel
theorem dL_build_353 : decode cL_build 353 = .ok (.iadd, 1) := by decide +kernel
theorem dL_build_354 : decode cL_build 354 = .ok (.iconst 0, 1) := by decide +kernel
theorem dL_build_355 : decode cL_build 355 = .ok (.iconst 0, 1) := by decide +kernel
theorem dL_build_356 : decode cL_build 356 = .ok (.invokestatic 125, 3) := by decide +kernel
theorem dL_build_359 : decode cL_build 359 = .ok (.pop, 1) := by decide +kernel
theorem dL_build_360 : decode cL_build 360 = .ok (.iinc 5 1, 3) := by decide +kernel
theorem dL_build_363 : decode cL_build 363 = .ok (.goto (-76), 3) := by decide +kernel
theorem dL_build_366 : decode cL_build 366 = .ok (.aload_n 1, 1) := by decide +kernel
theorem dL_build_367 : decode cL_build 367 = .ok (.iload_n 2, 1) := by decide +kernel
theorem dL_build_368 : decode cL_build 368 = .ok (.sipush 160, 3) := by decide +kernel
theorem dL_build_371 : decode cL_build 371 = .ok (.iadd, 1) := by decide +kernel
theorem dL_build_372 : decode cL_build 372 = .ok (.bipush 6, 2) := by decide +kernel
theorem dL_build_374 : decode cL_build 374 = .ok (.invokestatic 131, 3) := by decide +kernel
theorem dL_build_377 : decode cL_build 377 = .ok (.istore 5, 2) := by decide +kernel
theorem dL_build_379 : decode cL_build 379 = .ok (.iload 5, 2) := by decide +kernel
theorem dL_build_381 : decode cL_build 381 = .ok (.ifCond .le 118, 3) := by decide +kernel
theorem dL_build_384 : decode cL_build 384 = .ok (.iload_n 2, 1) := by decide +kernel
theorem dL_build_385 : decode cL_build 385 = .ok (.sipush 160, 3) := by decide +kernel
theorem dL_build_388 : decode cL_build 388 = .ok (.iadd, 1) := by decide +kernel
theorem dL_build_389 : decode cL_build 389 = .ok (.bipush 6, 2) := by decide +kernel
theorem dL_build_391 : decode cL_build 391 = .ok (.iload 5, 2) := by decide +kernel
theorem dL_build_393 : decode cL_build 393 = .ok (.imul, 1) := by decide +kernel
theorem dL_build_394 : decode cL_build 394 = .ok (.iadd, 1) := by decide +kernel
theorem dL_build_395 : decode cL_build 395 = .ok (.istore 6, 2) := by decide +kernel
theorem dL_build_397 : decode cL_build 397 = .ok (.aload_n 0, 1) := by decide +kernel
theorem dL_build_398 : decode cL_build 398 = .ok (.iconst 4, 1) := by decide +kernel
theorem dL_build_399 : decode cL_build 399 = .ok (.aload_n 1, 1) := by decide +kernel
theorem dL_build_400 : decode cL_build 400 = .ok (.iload 6, 2) := by decide +kernel
theorem dL_build_402 : decode cL_build 402 = .ok (.iload 4, 2) := by decide +kernel
theorem dL_build_404 : decode cL_build 404 = .ok (.invokestatic 131, 3) := by decide +kernel
theorem dL_build_407 : decode cL_build 407 = .ok (.aload_n 1, 1) := by decide +kernel
theorem dL_build_408 : decode cL_build 408 = .ok (.iload 6, 2) := by decide +kernel
theorem dL_build_410 : decode cL_build 410 = .ok (.iconst 1, 1) := by decide +kernel
theorem dL_build_411 : decode cL_build 411 = .ok (.iadd, 1) := by decide +kernel
theorem dL_build_412 : decode cL_build 412 = .ok (.iconst 4, 1) := by decide +kernel
theorem dL_build_413 : decode cL_build 413 = .ok (.invokestatic 131, 3) := by decide +kernel
theorem dL_build_416 : decode cL_build 416 = .ok (.ifCond .ne 16, 3) := by decide +kernel
theorem dL_build_419 : decode cL_build 419 = .ok (.aload_n 1, 1) := by decide +kernel
theorem dL_build_420 : decode cL_build 420 = .ok (.iload 6, 2) := by decide +kernel
theorem dL_build_422 : decode cL_build 422 = .ok (.iconst 2, 1) := by decide +kernel
theorem dL_build_423 : decode cL_build 423 = .ok (.iadd, 1) := by decide +kernel
theorem dL_build_424 : decode cL_build 424 = .ok (.iload 4, 2) := by decide +kernel
theorem dL_build_426 : decode cL_build 426 = .ok (.invokestatic 131, 3) := by decide +kernel
theorem dL_build_429 : decode cL_build 429 = .ok (.goto 4, 3) := by decide +kernel
theorem dL_build_432 : decode cL_build 432 = .ok (.iconst (-1), 1) := by decide +kernel
theorem dL_build_433 : decode cL_build 433 = .ok (.aload_n 1, 1) := by decide +kernel
theorem dL_build_434 : decode cL_build 434 = .ok (.iload 6, 2) := by decide +kernel
theorem dL_build_436 : decode cL_build 436 = .ok (.iconst 3, 1) := by decide +kernel
theorem dL_build_437 : decode cL_build 437 = .ok (.iadd, 1) := by decide +kernel
theorem dL_build_438 : decode cL_build 438 = .ok (.iload 4, 2) := by decide +kernel
theorem dL_build_440 : decode cL_build 440 = .ok (.invokestatic 131, 3) := by decide +kernel
theorem dL_build_443 : decode cL_build 443 = .ok (.aload_n 1, 1) := by decide +kernel
theorem dL_build_444 : decode cL_build 444 = .ok (.iload 6, 2) := by decide +kernel
theorem dL_build_446 : decode cL_build 446 = .ok (.iconst 1, 1) := by decide +kernel
theorem dL_build_447 : decode cL_build 447 = .ok (.iadd, 1) := by decide +kernel
theorem dL_build_448 : decode cL_build 448 = .ok (.iconst 4, 1) := by decide +kernel
theorem dL_build_449 : decode cL_build 449 = .ok (.invokestatic 131, 3) := by decide +kernel
theorem dL_build_452 : decode cL_build 452 = .ok (.iconst 1, 1) := by decide +kernel
theorem dL_build_453 : decode cL_build 453 = .ok (.if_icmp .ne 16, 3) := by decide +kernel
theorem dL_build_456 : decode cL_build 456 = .ok (.aload_n 1, 1) := by decide +kernel
theorem dL_build_457 : decode cL_build 457 = .ok (.iload 6, 2) := by decide +kernel
theorem dL_build_459 : decode cL_build 459 = .ok (.iconst 2, 1) := by decide +kernel
theorem dL_build_460 : decode cL_build 460 = .ok (.iadd, 1) := by decide +kernel
theorem dL_build_461 : decode cL_build 461 = .ok (.iload 4, 2) := by decide +kernel
theorem dL_build_463 : decode cL_build 463 = .ok (.invokestatic 131, 3) := by decide +kernel
theorem dL_build_466 : decode cL_build 466 = .ok (.goto 4, 3) := by decide +kernel
theorem dL_build_469 : decode cL_build 469 = .ok (.iconst (-1), 1) := by decide +kernel
theorem dL_build_470 : decode cL_build 470 = .ok (.aload_n 1, 1) := by decide +kernel
theorem dL_build_471 : decode cL_build 471 = .ok (.iload 6, 2) := by decide +kernel
theorem dL_build_473 : decode cL_build 473 = .ok (.iconst 4, 1) := by decide +kernel
theorem dL_build_474 : decode cL_build 474 = .ok (.iadd, 1) := by decide +kernel
theorem dL_build_475 : decode cL_build 475 = .ok (.bipush 32, 2) := by decide +kernel
theorem dL_build_477 : decode cL_build 477 = .ok (.invokestatic 131, 3) := by decide +kernel
theorem dL_build_480 : decode cL_build 480 = .ok (.aload_n 1, 1) := by decide +kernel
theorem dL_build_481 : decode cL_build 481 = .ok (.iload 6, 2) := by decide +kernel
theorem dL_build_483 : decode cL_build 483 = .ok (.iconst 5, 1) := by decide +kernel
theorem dL_build_484 : decode cL_build 484 = .ok (.iadd, 1) := by decide +kernel
theorem dL_build_485 : decode cL_build 485 = .ok (.iconst 2, 1) := by decide +kernel
theorem dL_build_486 : decode cL_build 486 = .ok (.invokestatic 131, 3) := by decide +kernel
theorem dL_build_489 : decode cL_build 489 = .ok (.invokestatic 125, 3) := by decide +kernel
theorem dL_build_492 : decode cL_build 492 = .ok (.pop, 1) := by decide +kernel
theorem dL_build_493 : decode cL_build 493 = .ok (.iinc 5 (-1), 3) := by decide +kernel
theorem dL_build_496 : decode cL_build 496 = .ok (.goto (-117), 3) := by decide +kernel
theorem dL_build_499 : decode cL_build 499 = .ok (.return_, 1) := by decide +kernel
theorem dL_all_0 : decode cL_all 0 = .ok (.aload_n 0, 1) := by decide +kernel
theorem dL_all_1 : decode cL_all 1 = .ok (.invokevirtual 153, 3) := by decide +kernel
theorem dL_all_4 : decode cL_all 4 = .ok (.i2l, 1) := by decide +kernel
theorem dL_all_5 : decode cL_all 5 = .ok (.lstore_n 1, 1) := by decide +kernel
theorem dL_all_6 : decode cL_all 6 = .ok (.iconst 0, 1) := by decide +kernel
theorem dL_all_7 : decode cL_all 7 = .ok (.istore_n 3, 1) := by decide +kernel
theorem dL_all_8 : decode cL_all 8 = .ok (.iload_n 3, 1) := by decide +kernel
theorem dL_all_9 : decode cL_all 9 = .ok (.bipush 32, 2) := by decide +kernel
theorem dL_all_11 : decode cL_all 11 = .ok (.if_icmp .ge 24, 3) := by decide +kernel
theorem dL_all_14 : decode cL_all 14 = .ok (.ldc2_w 156, 3) := by decide +kernel
theorem dL_all_17 : decode cL_all 17 = .ok (.lload_n 1, 1) := by decide +kernel
theorem dL_all_18 : decode cL_all 18 = .ok (.lmul, 1) := by decide +kernel
theorem dL_all_19 : decode cL_all 19 = .ok (.aload_n 0, 1) := by decide +kernel
theorem dL_all_20 : decode cL_all 20 = .ok (.bipush 16, 2) := by decide +kernel
theorem dL_all_22 : decode cL_all 22 = .ok (.iload_n 3, 1) := by decide +kernel
theorem dL_all_23 : decode cL_all 23 = .ok (.invokestatic 158, 3) := by decide +kernel
theorem dL_all_26 : decode cL_all 26 = .ok (.i2l, 1) := by decide +kernel
theorem dL_all_27 : decode cL_all 27 = .ok (.ladd, 1) := by decide +kernel
theorem dL_all_28 : decode cL_all 28 = .ok (.lstore_n 1, 1) := by decide +kernel
theorem dL_all_29 : decode cL_all 29 = .ok (.iinc 3 1, 3) := by decide +kernel
theorem dL_all_32 : decode cL_all 32 = .ok (.goto (-24), 3) := by decide +kernel
theorem dL_all_35 : decode cL_all 35 = .ok (.iconst 0, 1) := by decide +kernel
theorem dL_all_36 : decode cL_all 36 = .ok (.istore_n 3, 1) := by decide +kernel
theorem dL_all_37 : decode cL_all 37 = .ok (.iload_n 3, 1) := by decide +kernel
theorem dL_all_38 : decode cL_all 38 = .ok (.bipush 8, 2) := by decide +kernel
theorem dL_all_40 : decode cL_all 40 = .ok (.if_icmp .ge 84, 3) := by decide +kernel
theorem dL_all_43 : decode cL_all 43 = .ok (.ldc2_w 156, 3) := by decide +kernel
theorem dL_all_46 : decode cL_all 46 = .ok (.lload_n 1, 1) := by decide +kernel
theorem dL_all_47 : decode cL_all 47 = .ok (.lmul, 1) := by decide +kernel
theorem dL_all_48 : decode cL_all 48 = .ok (.aload_n 0, 1) := by decide +kernel
theorem dL_all_49 : decode cL_all 49 = .ok (.bipush 17, 2) := by decide +kernel
theorem dL_all_51 : decode cL_all 51 = .ok (.iload_n 3, 1) := by decide +kernel
theorem dL_all_52 : decode cL_all 52 = .ok (.invokestatic 158, 3) := by decide +kernel
theorem dL_all_55 : decode cL_all 55 = .ok (.i2l, 1) := by decide +kernel
theorem dL_all_56 : decode cL_all 56 = .ok (.ladd, 1) := by decide +kernel
theorem dL_all_57 : decode cL_all 57 = .ok (.lstore_n 1, 1) := by decide +kernel
theorem dL_all_58 : decode cL_all 58 = .ok (.ldc2_w 156, 3) := by decide +kernel
theorem dL_all_61 : decode cL_all 61 = .ok (.lload_n 1, 1) := by decide +kernel
theorem dL_all_62 : decode cL_all 62 = .ok (.lmul, 1) := by decide +kernel
theorem dL_all_63 : decode cL_all 63 = .ok (.aload_n 0, 1) := by decide +kernel
theorem dL_all_64 : decode cL_all 64 = .ok (.bipush 18, 2) := by decide +kernel
theorem dL_all_66 : decode cL_all 66 = .ok (.iload_n 3, 1) := by decide +kernel
theorem dL_all_67 : decode cL_all 67 = .ok (.invokestatic 158, 3) := by decide +kernel
theorem dL_all_70 : decode cL_all 70 = .ok (.i2l, 1) := by decide +kernel
theorem dL_all_71 : decode cL_all 71 = .ok (.ladd, 1) := by decide +kernel
theorem dL_all_72 : decode cL_all 72 = .ok (.lstore_n 1, 1) := by decide +kernel
theorem dL_all_73 : decode cL_all 73 = .ok (.ldc2_w 156, 3) := by decide +kernel
theorem dL_all_76 : decode cL_all 76 = .ok (.lload_n 1, 1) := by decide +kernel
theorem dL_all_77 : decode cL_all 77 = .ok (.lmul, 1) := by decide +kernel
theorem dL_all_78 : decode cL_all 78 = .ok (.aload_n 0, 1) := by decide +kernel
theorem dL_all_79 : decode cL_all 79 = .ok (.bipush 19, 2) := by decide +kernel
theorem dL_all_81 : decode cL_all 81 = .ok (.iload_n 3, 1) := by decide +kernel
theorem dL_all_82 : decode cL_all 82 = .ok (.invokestatic 158, 3) := by decide +kernel
theorem dL_all_85 : decode cL_all 85 = .ok (.i2l, 1) := by decide +kernel
theorem dL_all_86 : decode cL_all 86 = .ok (.ladd, 1) := by decide +kernel
theorem dL_all_87 : decode cL_all 87 = .ok (.lstore_n 1, 1) := by decide +kernel
theorem dL_all_88 : decode cL_all 88 = .ok (.ldc2_w 156, 3) := by decide +kernel
theorem dL_all_91 : decode cL_all 91 = .ok (.lload_n 1, 1) := by decide +kernel
theorem dL_all_92 : decode cL_all 92 = .ok (.lmul, 1) := by decide +kernel
theorem dL_all_93 : decode cL_all 93 = .ok (.aload_n 0, 1) := by decide +kernel
theorem dL_all_94 : decode cL_all 94 = .ok (.bipush 22, 2) := by decide +kernel
theorem dL_all_96 : decode cL_all 96 = .ok (.iload_n 3, 1) := by decide +kernel
theorem dL_all_97 : decode cL_all 97 = .ok (.invokestatic 158, 3) := by decide +kernel
theorem dL_all_100 : decode cL_all 100 = .ok (.i2l, 1) := by decide +kernel
theorem dL_all_101 : decode cL_all 101 = .ok (.ladd, 1) := by decide +kernel
theorem dL_all_102 : decode cL_all 102 = .ok (.lstore_n 1, 1) := by decide +kernel
theorem dL_all_103 : decode cL_all 103 = .ok (.ldc2_w 156, 3) := by decide +kernel
theorem dL_all_106 : decode cL_all 106 = .ok (.lload_n 1, 1) := by decide +kernel
theorem dL_all_107 : decode cL_all 107 = .ok (.lmul, 1) := by decide +kernel
theorem dL_all_108 : decode cL_all 108 = .ok (.aload_n 0, 1) := by decide +kernel
theorem dL_all_109 : decode cL_all 109 = .ok (.bipush 26, 2) := by decide +kernel
theorem dL_all_111 : decode cL_all 111 = .ok (.iload_n 3, 1) := by decide +kernel
theorem dL_all_112 : decode cL_all 112 = .ok (.invokestatic 158, 3) := by decide +kernel
theorem dL_all_115 : decode cL_all 115 = .ok (.i2l, 1) := by decide +kernel
theorem dL_all_116 : decode cL_all 116 = .ok (.ladd, 1) := by decide +kernel
theorem dL_all_117 : decode cL_all 117 = .ok (.lstore_n 1, 1) := by decide +kernel
theorem dL_all_118 : decode cL_all 118 = .ok (.iinc 3 1, 3) := by decide +kernel
theorem dL_all_121 : decode cL_all 121 = .ok (.goto (-84), 3) := by decide +kernel
theorem dL_all_124 : decode cL_all 124 = .ok (.iconst 0, 1) := by decide +kernel
theorem dL_all_125 : decode cL_all 125 = .ok (.istore_n 3, 1) := by decide +kernel
theorem dL_all_126 : decode cL_all 126 = .ok (.iload_n 3, 1) := by decide +kernel
theorem dL_all_127 : decode cL_all 127 = .ok (.bipush 12, 2) := by decide +kernel
theorem dL_all_129 : decode cL_all 129 = .ok (.if_icmp .ge 24, 3) := by decide +kernel
theorem dL_all_132 : decode cL_all 132 = .ok (.ldc2_w 156, 3) := by decide +kernel
theorem dL_all_135 : decode cL_all 135 = .ok (.lload_n 1, 1) := by decide +kernel
theorem dL_all_136 : decode cL_all 136 = .ok (.lmul, 1) := by decide +kernel
theorem dL_all_137 : decode cL_all 137 = .ok (.aload_n 0, 1) := by decide +kernel
theorem dL_all_138 : decode cL_all 138 = .ok (.bipush 21, 2) := by decide +kernel
theorem dL_all_140 : decode cL_all 140 = .ok (.iload_n 3, 1) := by decide +kernel
theorem dL_all_141 : decode cL_all 141 = .ok (.invokestatic 158, 3) := by decide +kernel
theorem dL_all_144 : decode cL_all 144 = .ok (.i2l, 1) := by decide +kernel
theorem dL_all_145 : decode cL_all 145 = .ok (.ladd, 1) := by decide +kernel
theorem dL_all_146 : decode cL_all 146 = .ok (.lstore_n 1, 1) := by decide +kernel
theorem dL_all_147 : decode cL_all 147 = .ok (.iinc 3 1, 3) := by decide +kernel
theorem dL_all_150 : decode cL_all 150 = .ok (.goto (-24), 3) := by decide +kernel
theorem dL_all_153 : decode cL_all 153 = .ok (.iconst 0, 1) := by decide +kernel
theorem dL_all_154 : decode cL_all 154 = .ok (.istore_n 3, 1) := by decide +kernel
theorem dL_all_155 : decode cL_all 155 = .ok (.iload_n 3, 1) := by decide +kernel
theorem dL_all_156 : decode cL_all 156 = .ok (.aload_n 0, 1) := by decide +kernel
theorem dL_all_157 : decode cL_all 157 = .ok (.invokevirtual 162, 3) := by decide +kernel
theorem dL_all_160 : decode cL_all 160 = .ok (.if_icmp .ge 24, 3) := by decide +kernel
theorem dL_all_163 : decode cL_all 163 = .ok (.ldc2_w 156, 3) := by decide +kernel
theorem dL_all_166 : decode cL_all 166 = .ok (.lload_n 1, 1) := by decide +kernel
theorem dL_all_167 : decode cL_all 167 = .ok (.lmul, 1) := by decide +kernel
theorem dL_all_168 : decode cL_all 168 = .ok (.aload_n 0, 1) := by decide +kernel
theorem dL_all_169 : decode cL_all 169 = .ok (.bipush 23, 2) := by decide +kernel
theorem dL_all_171 : decode cL_all 171 = .ok (.iload_n 3, 1) := by decide +kernel
theorem dL_all_172 : decode cL_all 172 = .ok (.invokestatic 158, 3) := by decide +kernel
theorem dL_all_175 : decode cL_all 175 = .ok (.i2l, 1) := by decide +kernel
theorem dL_all_176 : decode cL_all 176 = .ok (.ladd, 1) := by decide +kernel
theorem dL_all_177 : decode cL_all 177 = .ok (.lstore_n 1, 1) := by decide +kernel
theorem dL_all_178 : decode cL_all 178 = .ok (.iinc 3 1, 3) := by decide +kernel
theorem dL_all_181 : decode cL_all 181 = .ok (.goto (-26), 3) := by decide +kernel
theorem dL_all_184 : decode cL_all 184 = .ok (.lload_n 1, 1) := by decide +kernel
theorem dL_all_185 : decode cL_all 185 = .ok (.ldc2_w 165, 3) := by decide +kernel
theorem dL_all_188 : decode cL_all 188 = .ok (.aload_n 0, 1) := by decide +kernel
theorem dL_all_189 : decode cL_all 189 = .ok (.invokevirtual 167, 3) := by decide +kernel
theorem dL_all_192 : decode cL_all 192 = .ok (.lmul, 1) := by decide +kernel
theorem dL_all_193 : decode cL_all 193 = .ok (.ladd, 1) := by decide +kernel
theorem dL_all_194 : decode cL_all 194 = .ok (.ldc2_w 171, 3) := by decide +kernel
theorem dL_all_197 : decode cL_all 197 = .ok (.aload_n 0, 1) := by decide +kernel
theorem dL_all_198 : decode cL_all 198 = .ok (.invokevirtual 173, 3) := by decide +kernel
theorem dL_all_201 : decode cL_all 201 = .ok (.invokestatic 43, 3) := by decide +kernel
theorem dL_all_204 : decode cL_all 204 = .ok (.i2l, 1) := by decide +kernel
theorem dL_all_205 : decode cL_all 205 = .ok (.lmul, 1) := by decide +kernel
theorem dL_all_206 : decode cL_all 206 = .ok (.ladd, 1) := by decide +kernel
theorem dL_all_207 : decode cL_all 207 = .ok (.lreturn, 1) := by decide +kernel
theorem dL_isWhole_0 : decode cL_isWhole 0 = .ok (.aload_n 0, 1) := by decide +kernel
theorem dL_isWhole_1 : decode cL_isWhole 1 = .ok (.invokevirtual 177, 3) := by decide +kernel
theorem dL_isWhole_4 : decode cL_isWhole 4 = .ok (.istore_n 1, 1) := by decide +kernel
theorem dL_isWhole_5 : decode cL_isWhole 5 = .ok (.iconst 0, 1) := by decide +kernel
theorem dL_isWhole_6 : decode cL_isWhole 6 = .ok (.istore_n 2, 1) := by decide +kernel
theorem dL_isWhole_7 : decode cL_isWhole 7 = .ok (.iload_n 2, 1) := by decide +kernel
theorem dL_isWhole_8 : decode cL_isWhole 8 = .ok (.bipush 8, 2) := by decide +kernel
theorem dL_isWhole_10 : decode cL_isWhole 10 = .ok (.if_icmp .ge 104, 3) := by decide +kernel
theorem dL_isWhole_13 : decode cL_isWhole 13 = .ok (.aload_n 0, 1) := by decide +kernel
theorem dL_isWhole_14 : decode cL_isWhole 14 = .ok (.bipush 22, 2) := by decide +kernel
theorem dL_isWhole_16 : decode cL_isWhole 16 = .ok (.iload_n 2, 1) := by decide +kernel
theorem dL_isWhole_17 : decode cL_isWhole 17 = .ok (.invokestatic 158, 3) := by decide +kernel
theorem dL_isWhole_20 : decode cL_isWhole 20 = .ok (.istore_n 3, 1) := by decide +kernel
theorem dL_isWhole_21 : decode cL_isWhole 21 = .ok (.iconst 0, 1) := by decide +kernel
theorem dL_isWhole_22 : decode cL_isWhole 22 = .ok (.istore 4, 2) := by decide +kernel
theorem dL_isWhole_24 : decode cL_isWhole 24 = .ok (.iconst 0, 1) := by decide +kernel
theorem dL_isWhole_25 : decode cL_isWhole 25 = .ok (.istore 5, 2) := by decide +kernel
theorem dL_isWhole_27 : decode cL_isWhole 27 = .ok (.iload 5, 2) := by decide +kernel
theorem dL_isWhole_29 : decode cL_isWhole 29 = .ok (.aload_n 0, 1) := by decide +kernel
theorem dL_isWhole_30 : decode cL_isWhole 30 = .ok (.invokevirtual 162, 3) := by decide +kernel
theorem dL_isWhole_33 : decode cL_isWhole 33 = .ok (.if_icmp .ge 34, 3) := by decide +kernel
theorem dL_isWhole_36 : decode cL_isWhole 36 = .ok (.iload 4, 2) := by decide +kernel
theorem dL_isWhole_38 : decode cL_isWhole 38 = .ok (.aload_n 0, 1) := by decide +kernel
theorem dL_isWhole_39 : decode cL_isWhole 39 = .ok (.bipush 23, 2) := by decide +kernel
theorem dL_isWhole_41 : decode cL_isWhole 41 = .ok (.iload 5, 2) := by decide +kernel
theorem dL_isWhole_43 : decode cL_isWhole 43 = .ok (.invokestatic 158, 3) := by decide +kernel
theorem dL_isWhole_46 : decode cL_isWhole 46 = .ok (.iload_n 2, 1) := by decide +kernel
theorem dL_isWhole_47 : decode cL_isWhole 47 = .ok (.if_icmp .ne 7, 3) := by decide +kernel
theorem dL_isWhole_50 : decode cL_isWhole 50 = .ok (.iconst 1, 1) := by decide +kernel
theorem dL_isWhole_51 : decode cL_isWhole 51 = .ok (.goto 4, 3) := by decide +kernel
theorem dL_isWhole_54 : decode cL_isWhole 54 = .ok (.iconst 0, 1) := by decide +kernel
theorem dL_isWhole_55 : decode cL_isWhole 55 = .ok (.invokestatic 43, 3) := by decide +kernel
theorem dL_isWhole_58 : decode cL_isWhole 58 = .ok (.iadd, 1) := by decide +kernel
theorem dL_isWhole_59 : decode cL_isWhole 59 = .ok (.istore 4, 2) := by decide +kernel
theorem dL_isWhole_61 : decode cL_isWhole 61 = .ok (.iinc 5 1, 3) := by decide +kernel
theorem dL_isWhole_64 : decode cL_isWhole 64 = .ok (.goto (-37), 3) := by decide +kernel
theorem dL_isWhole_67 : decode cL_isWhole 67 = .ok (.iload_n 1, 1) := by decide +kernel
theorem dL_isWhole_68 : decode cL_isWhole 68 = .ok (.ifCond .eq 38, 3) := by decide +kernel
theorem dL_isWhole_71 : decode cL_isWhole 71 = .ok (.iload 4, 2) := by decide +kernel
theorem dL_isWhole_73 : decode cL_isWhole 73 = .ok (.iload_n 3, 1) := by decide +kernel
theorem dL_isWhole_74 : decode cL_isWhole 74 = .ok (.bipush 116, 2) := by decide +kernel
theorem dL_isWhole_76 : decode cL_isWhole 76 = .ok (.if_icmp .eq 15, 3) := by decide +kernel
theorem dL_isWhole_79 : decode cL_isWhole 79 = .ok (.iload_n 3, 1) := by decide +kernel
theorem dL_isWhole_80 : decode cL_isWhole 80 = .ok (.bipush 97, 2) := by decide +kernel
theorem dL_isWhole_82 : decode cL_isWhole 82 = .ok (.if_icmp .eq 9, 3) := by decide +kernel
theorem dL_isWhole_85 : decode cL_isWhole 85 = .ok (.iload_n 3, 1) := by decide +kernel
theorem dL_isWhole_86 : decode cL_isWhole 86 = .ok (.bipush 114, 2) := by decide +kernel
theorem dL_isWhole_88 : decode cL_isWhole 88 = .ok (.if_icmp .ne 7, 3) := by decide +kernel
theorem dL_isWhole_91 : decode cL_isWhole 91 = .ok (.iconst 1, 1) := by decide +kernel
theorem dL_isWhole_92 : decode cL_isWhole 92 = .ok (.goto 4, 3) := by decide +kernel
theorem dL_isWhole_95 : decode cL_isWhole 95 = .ok (.iconst 0, 1) := by decide +kernel
theorem dL_isWhole_96 : decode cL_isWhole 96 = .ok (.invokestatic 43, 3) := by decide +kernel
theorem dL_isWhole_99 : decode cL_isWhole 99 = .ok (.if_icmp .ne 7, 3) := by decide +kernel
theorem dL_isWhole_102 : decode cL_isWhole 102 = .ok (.iconst 1, 1) := by decide +kernel
theorem dL_isWhole_103 : decode cL_isWhole 103 = .ok (.goto 4, 3) := by decide +kernel
theorem dL_isWhole_106 : decode cL_isWhole 106 = .ok (.iconst 0, 1) := by decide +kernel
theorem dL_isWhole_107 : decode cL_isWhole 107 = .ok (.istore_n 1, 1) := by decide +kernel
theorem dL_isWhole_108 : decode cL_isWhole 108 = .ok (.iinc 2 1, 3) := by decide +kernel
theorem dL_isWhole_111 : decode cL_isWhole 111 = .ok (.goto (-104), 3) := by decide +kernel
theorem dL_isWhole_114 : decode cL_isWhole 114 = .ok (.iload_n 1, 1) := by decide +kernel
theorem dL_isWhole_115 : decode cL_isWhole 115 = .ok (.ifCond .eq 40, 3) := by decide +kernel
theorem dL_isWhole_118 : decode cL_isWhole 118 = .ok (.aload_n 0, 1) := by decide +kernel
theorem dL_isWhole_119 : decode cL_isWhole 119 = .ok (.bipush 23, 2) := by decide +kernel
theorem dL_isWhole_121 : decode cL_isWhole 121 = .ok (.aload_n 0, 1) := by decide +kernel
theorem dL_isWhole_122 : decode cL_isWhole 122 = .ok (.invokevirtual 162, 3) := by decide +kernel
theorem dL_isWhole_125 : decode cL_isWhole 125 = .ok (.invokestatic 158, 3) := by decide +kernel
theorem dL_isWhole_128 : decode cL_isWhole 128 = .ok (.sipush (-2001), 3) := by decide +kernel
theorem dL_isWhole_131 : decode cL_isWhole 131 = .ok (.if_icmp .ne 24, 3) := by decide +kernel
theorem dL_isWhole_134 : decode cL_isWhole 134 = .ok (.aload_n 0, 1) := by decide +kernel
theorem dL_isWhole_135 : decode cL_isWhole 135 = .ok (.invokevirtual 173, 3) := by decide +kernel
theorem dL_isWhole_138 : decode cL_isWhole 138 = .ok (.ifCond .ne 13, 3) := by decide +kernel
theorem dL_isWhole_141 : decode cL_isWhole 141 = .ok (.aload_n 0, 1) := by decide +kernel
theorem dL_isWhole_142 : decode cL_isWhole 142 = .ok (.bipush 25, 2) := by decide +kernel
theorem dL_isWhole_144 : decode cL_isWhole 144 = .ok (.iconst 0, 1) := by decide +kernel
theorem dL_isWhole_145 : decode cL_isWhole 145 = .ok (.invokestatic 158, 3) := by decide +kernel
theorem dL_isWhole_148 : decode cL_isWhole 148 = .ok (.ifCond .lt 7, 3) := by decide +kernel
theorem dL_isWhole_151 : decode cL_isWhole 151 = .ok (.iconst 1, 1) := by decide +kernel
theorem dL_isWhole_152 : decode cL_isWhole 152 = .ok (.goto 4, 3) := by decide +kernel
theorem dL_isWhole_155 : decode cL_isWhole 155 = .ok (.iconst 0, 1) := by decide +kernel
theorem dL_isWhole_156 : decode cL_isWhole 156 = .ok (.ireturn, 1) := by decide +kernel
theorem dL_happens_0 : decode cL_happens 0 = .ok (.aload_n 1, 1) := by decide +kernel
theorem dL_happens_1 : decode cL_happens 1 = .ok (.iload_n 2, 1) := by decide +kernel
theorem dL_happens_2 : decode cL_happens 2 = .ok (.bipush 12, 2) := by decide +kernel
theorem dL_happens_4 : decode cL_happens 4 = .ok (.invokestatic 131, 3) := by decide +kernel
theorem dL_happens_7 : decode cL_happens 7 = .ok (.tableswitch 209 0 5 #[37, 70, 94, 128, 153, 186], 37) := by decide +kernel
theorem dL_happens_44 : decode cL_happens 44 = .ok (.aload_n 0, 1) := by decide +kernel
theorem dL_happens_45 : decode cL_happens 45 = .ok (.bipush 7, 2) := by decide +kernel
theorem dL_happens_47 : decode cL_happens 47 = .ok (.aload_n 1, 1) := by decide +kernel
theorem dL_happens_48 : decode cL_happens 48 = .ok (.iload_n 2, 1) := by decide +kernel
theorem dL_happens_49 : decode cL_happens 49 = .ok (.iconst 1, 1) := by decide +kernel
theorem dL_happens_50 : decode cL_happens 50 = .ok (.iadd, 1) := by decide +kernel
theorem dL_happens_51 : decode cL_happens 51 = .ok (.bipush 32, 2) := by decide +kernel
theorem dL_happens_53 : decode cL_happens 53 = .ok (.invokestatic 131, 3) := by decide +kernel
theorem dL_happens_56 : decode cL_happens 56 = .ok (.aload_n 1, 1) := by decide +kernel
theorem dL_happens_57 : decode cL_happens 57 = .ok (.iload_n 2, 1) := by decide +kernel
theorem dL_happens_58 : decode cL_happens 58 = .ok (.iconst 2, 1) := by decide +kernel
theorem dL_happens_59 : decode cL_happens 59 = .ok (.iadd, 1) := by decide +kernel
theorem dL_happens_60 : decode cL_happens 60 = .ok (.iconst 3, 1) := by decide +kernel
theorem dL_happens_61 : decode cL_happens 61 = .ok (.invokestatic 131, 3) := by decide +kernel
theorem dL_happens_64 : decode cL_happens 64 = .ok (.iconst 1, 1) := by decide +kernel
theorem dL_happens_65 : decode cL_happens 65 = .ok (.isub, 1) := by decide +kernel
theorem dL_happens_66 : decode cL_happens 66 = .ok (.iconst 0, 1) := by decide +kernel
theorem dL_happens_67 : decode cL_happens 67 = .ok (.iconst 0, 1) := by decide +kernel
theorem dL_happens_68 : decode cL_happens 68 = .ok (.iconst 0, 1) := by decide +kernel
theorem dL_happens_69 : decode cL_happens 69 = .ok (.iconst 0, 1) := by decide +kernel
theorem dL_happens_70 : decode cL_happens 70 = .ok (.invokestatic 125, 3) := by decide +kernel
theorem dL_happens_73 : decode cL_happens 73 = .ok (.pop, 1) := by decide +kernel
theorem dL_happens_74 : decode cL_happens 74 = .ok (.goto 163, 3) := by decide +kernel
theorem dL_happens_77 : decode cL_happens 77 = .ok (.aload_n 0, 1) := by decide +kernel
theorem dL_happens_78 : decode cL_happens 78 = .ok (.bipush 14, 2) := by decide +kernel
theorem dL_happens_80 : decode cL_happens 80 = .ok (.aload_n 1, 1) := by decide +kernel
theorem dL_happens_81 : decode cL_happens 81 = .ok (.iload_n 2, 1) := by decide +kernel
theorem dL_happens_82 : decode cL_happens 82 = .ok (.iconst 1, 1) := by decide +kernel
theorem dL_happens_83 : decode cL_happens 83 = .ok (.iadd, 1) := by decide +kernel
theorem dL_happens_84 : decode cL_happens 84 = .ok (.bipush 8, 2) := by decide +kernel
theorem dL_happens_86 : decode cL_happens 86 = .ok (.invokestatic 131, 3) := by decide +kernel
theorem dL_happens_89 : decode cL_happens 89 = .ok (.iconst 0, 1) := by decide +kernel
theorem dL_happens_90 : decode cL_happens 90 = .ok (.iconst 0, 1) := by decide +kernel
theorem dL_happens_91 : decode cL_happens 91 = .ok (.iconst 0, 1) := by decide +kernel
theorem dL_happens_92 : decode cL_happens 92 = .ok (.iconst 0, 1) := by decide +kernel
theorem dL_happens_93 : decode cL_happens 93 = .ok (.iconst 0, 1) := by decide +kernel
theorem dL_happens_94 : decode cL_happens 94 = .ok (.invokestatic 125, 3) := by decide +kernel
theorem dL_happens_97 : decode cL_happens 97 = .ok (.pop, 1) := by decide +kernel
theorem dL_happens_98 : decode cL_happens 98 = .ok (.goto 139, 3) := by decide +kernel
theorem dL_happens_101 : decode cL_happens 101 = .ok (.aload_n 0, 1) := by decide +kernel
theorem dL_happens_102 : decode cL_happens 102 = .ok (.bipush 15, 2) := by decide +kernel
theorem dL_happens_104 : decode cL_happens 104 = .ok (.aload_n 1, 1) := by decide +kernel
theorem dL_happens_105 : decode cL_happens 105 = .ok (.iload_n 2, 1) := by decide +kernel
theorem dL_happens_106 : decode cL_happens 106 = .ok (.iconst 1, 1) := by decide +kernel
theorem dL_happens_107 : decode cL_happens 107 = .ok (.iadd, 1) := by decide +kernel
theorem dL_happens_108 : decode cL_happens 108 = .ok (.bipush 8, 2) := by decide +kernel
theorem dL_happens_110 : decode cL_happens 110 = .ok (.invokestatic 131, 3) := by decide +kernel
theorem dL_happens_113 : decode cL_happens 113 = .ok (.aload_n 1, 1) := by decide +kernel
theorem dL_happens_114 : decode cL_happens 114 = .ok (.iload_n 2, 1) := by decide +kernel
theorem dL_happens_115 : decode cL_happens 115 = .ok (.iconst 2, 1) := by decide +kernel
theorem dL_happens_116 : decode cL_happens 116 = .ok (.iadd, 1) := by decide +kernel
theorem dL_happens_117 : decode cL_happens 117 = .ok (.iconst 3, 1) := by decide +kernel
theorem dL_happens_118 : decode cL_happens 118 = .ok (.invokestatic 131, 3) := by decide +kernel
theorem dL_happens_121 : decode cL_happens 121 = .ok (.bipush 7, 2) := by decide +kernel
theorem dL_happens_123 : decode cL_happens 123 = .ok (.imul, 1) := by decide +kernel
theorem dL_happens_124 : decode cL_happens 124 = .ok (.iconst 0, 1) := by decide +kernel
theorem dL_happens_125 : decode cL_happens 125 = .ok (.iconst 0, 1) := by decide +kernel
theorem dL_happens_126 : decode cL_happens 126 = .ok (.iconst 0, 1) := by decide +kernel
theorem dL_happens_127 : decode cL_happens 127 = .ok (.iconst 0, 1) := by decide +kernel
theorem dL_happens_128 : decode cL_happens 128 = .ok (.invokestatic 125, 3) := by decide +kernel
theorem dL_happens_131 : decode cL_happens 131 = .ok (.pop, 1) := by decide +kernel
theorem dL_happens_132 : decode cL_happens 132 = .ok (.goto 105, 3) := by decide +kernel
theorem dL_happens_135 : decode cL_happens 135 = .ok (.aload_n 0, 1) := by decide +kernel
theorem dL_happens_136 : decode cL_happens 136 = .ok (.bipush 11, 2) := by decide +kernel
theorem dL_happens_138 : decode cL_happens 138 = .ok (.iconst 1, 1) := by decide +kernel
theorem dL_happens_139 : decode cL_happens 139 = .ok (.aload_n 1, 1) := by decide +kernel
theorem dL_happens_140 : decode cL_happens 140 = .ok (.iload_n 2, 1) := by decide +kernel
theorem dL_happens_141 : decode cL_happens 141 = .ok (.iconst 1, 1) := by decide +kernel
theorem dL_happens_142 : decode cL_happens 142 = .ok (.iadd, 1) := by decide +kernel
theorem dL_happens_143 : decode cL_happens 143 = .ok (.iconst 4, 1) := by decide +kernel
theorem dL_happens_144 : decode cL_happens 144 = .ok (.invokestatic 131, 3) := by decide +kernel
theorem dL_happens_147 : decode cL_happens 147 = .ok (.iadd, 1) := by decide +kernel
theorem dL_happens_148 : decode cL_happens 148 = .ok (.iconst 0, 1) := by decide +kernel
theorem dL_happens_149 : decode cL_happens 149 = .ok (.iconst 0, 1) := by decide +kernel
theorem dL_happens_150 : decode cL_happens 150 = .ok (.iconst 0, 1) := by decide +kernel
theorem dL_happens_151 : decode cL_happens 151 = .ok (.iconst 0, 1) := by decide +kernel
theorem dL_happens_152 : decode cL_happens 152 = .ok (.iconst 0, 1) := by decide +kernel
theorem dL_happens_153 : decode cL_happens 153 = .ok (.invokestatic 125, 3) := by decide +kernel
theorem dL_happens_156 : decode cL_happens 156 = .ok (.pop, 1) := by decide +kernel
theorem dL_happens_157 : decode cL_happens 157 = .ok (.goto 80, 3) := by decide +kernel
theorem dL_happens_160 : decode cL_happens 160 = .ok (.aload_n 0, 1) := by decide +kernel
theorem dL_happens_161 : decode cL_happens 161 = .ok (.bipush 8, 2) := by decide +kernel
theorem dL_happens_163 : decode cL_happens 163 = .ok (.aload_n 1, 1) := by decide +kernel
theorem dL_happens_164 : decode cL_happens 164 = .ok (.iload_n 2, 1) := by decide +kernel
theorem dL_happens_165 : decode cL_happens 165 = .ok (.iconst 1, 1) := by decide +kernel
theorem dL_happens_166 : decode cL_happens 166 = .ok (.iadd, 1) := by decide +kernel
theorem dL_happens_167 : decode cL_happens 167 = .ok (.iconst 2, 1) := by decide +kernel
theorem dL_happens_168 : decode cL_happens 168 = .ok (.invokestatic 131, 3) := by decide +kernel
theorem dL_happens_171 : decode cL_happens 171 = .ok (.iconst 1, 1) := by decide +kernel
theorem dL_happens_172 : decode cL_happens 172 = .ok (.aload_n 1, 1) := by decide +kernel
theorem dL_happens_173 : decode cL_happens 173 = .ok (.iload_n 2, 1) := by decide +kernel
theorem dL_happens_174 : decode cL_happens 174 = .ok (.iconst 2, 1) := by decide +kernel
theorem dL_happens_175 : decode cL_happens 175 = .ok (.iadd, 1) := by decide +kernel
theorem dL_happens_176 : decode cL_happens 176 = .ok (.bipush 9, 2) := by decide +kernel
theorem dL_happens_178 : decode cL_happens 178 = .ok (.invokestatic 131, 3) := by decide +kernel
theorem dL_happens_181 : decode cL_happens 181 = .ok (.iadd, 1) := by decide +kernel
theorem dL_happens_182 : decode cL_happens 182 = .ok (.iconst 0, 1) := by decide +kernel
theorem dL_happens_183 : decode cL_happens 183 = .ok (.iconst 0, 1) := by decide +kernel
theorem dL_happens_184 : decode cL_happens 184 = .ok (.iconst 0, 1) := by decide +kernel
theorem dL_happens_185 : decode cL_happens 185 = .ok (.iconst 0, 1) := by decide +kernel
theorem dL_happens_186 : decode cL_happens 186 = .ok (.invokestatic 125, 3) := by decide +kernel
theorem dL_happens_189 : decode cL_happens 189 = .ok (.pop, 1) := by decide +kernel
theorem dL_happens_190 : decode cL_happens 190 = .ok (.goto 47, 3) := by decide +kernel
theorem dL_happens_193 : decode cL_happens 193 = .ok (.aload_n 0, 1) := by decide +kernel
theorem dL_happens_194 : decode cL_happens 194 = .ok (.bipush 12, 2) := by decide +kernel
theorem dL_happens_196 : decode cL_happens 196 = .ok (.aload_n 1, 1) := by decide +kernel
theorem dL_happens_197 : decode cL_happens 197 = .ok (.iload_n 2, 1) := by decide +kernel
theorem dL_happens_198 : decode cL_happens 198 = .ok (.iconst 1, 1) := by decide +kernel
theorem dL_happens_199 : decode cL_happens 199 = .ok (.iadd, 1) := by decide +kernel
theorem dL_happens_200 : decode cL_happens 200 = .ok (.iconst 4, 1) := by decide +kernel
theorem dL_happens_201 : decode cL_happens 201 = .ok (.invokestatic 131, 3) := by decide +kernel
theorem dL_happens_204 : decode cL_happens 204 = .ok (.iconst 0, 1) := by decide +kernel
theorem dL_happens_205 : decode cL_happens 205 = .ok (.iconst 0, 1) := by decide +kernel
theorem dL_happens_206 : decode cL_happens 206 = .ok (.iconst 0, 1) := by decide +kernel
theorem dL_happens_207 : decode cL_happens 207 = .ok (.iconst 0, 1) := by decide +kernel
theorem dL_happens_208 : decode cL_happens 208 = .ok (.iconst 0, 1) := by decide +kernel
theorem dL_happens_209 : decode cL_happens 209 = .ok (.invokestatic 125, 3) := by decide +kernel
theorem dL_happens_212 : decode cL_happens 212 = .ok (.pop, 1) := by decide +kernel
theorem dL_happens_213 : decode cL_happens 213 = .ok (.goto 24, 3) := by decide +kernel
theorem dL_happens_216 : decode cL_happens 216 = .ok (.aload_n 0, 1) := by decide +kernel
theorem dL_happens_217 : decode cL_happens 217 = .ok (.aload_n 1, 1) := by decide +kernel
theorem dL_happens_218 : decode cL_happens 218 = .ok (.iload_n 2, 1) := by decide +kernel
theorem dL_happens_219 : decode cL_happens 219 = .ok (.iconst 1, 1) := by decide +kernel
theorem dL_happens_220 : decode cL_happens 220 = .ok (.iadd, 1) := by decide +kernel
theorem dL_happens_221 : decode cL_happens 221 = .ok (.bipush 8, 2) := by decide +kernel
theorem dL_happens_223 : decode cL_happens 223 = .ok (.invokestatic 131, 3) := by decide +kernel
theorem dL_happens_226 : decode cL_happens 226 = .ok (.aload_n 1, 1) := by decide +kernel
theorem dL_happens_227 : decode cL_happens 227 = .ok (.iload_n 2, 1) := by decide +kernel
theorem dL_happens_228 : decode cL_happens 228 = .ok (.iconst 2, 1) := by decide +kernel
theorem dL_happens_229 : decode cL_happens 229 = .ok (.iadd, 1) := by decide +kernel
theorem dL_happens_230 : decode cL_happens 230 = .ok (.iconst 2, 1) := by decide +kernel
theorem dL_happens_231 : decode cL_happens 231 = .ok (.invokestatic 131, 3) := by decide +kernel
theorem dL_happens_234 : decode cL_happens 234 = .ok (.invokestatic 180, 3) := by decide +kernel
theorem dL_happens_237 : decode cL_happens 237 = .ok (.return_, 1) := by decide +kernel
theorem dL_law_0 : decode cL_law 0 = .ok (.new 16, 3) := by decide +kernel
theorem dL_law_3 : decode cL_law 3 = .ok (.dup, 1) := by decide +kernel
theorem dL_law_4 : decode cL_law 4 = .ok (.invokespecial 184, 3) := by decide +kernel
theorem dL_law_7 : decode cL_law 7 = .ok (.astore_n 1, 1) := by decide +kernel
theorem dL_law_8 : decode cL_law 8 = .ok (.new 16, 3) := by decide +kernel
theorem dL_law_11 : decode cL_law 11 = .ok (.dup, 1) := by decide +kernel
theorem dL_law_12 : decode cL_law 12 = .ok (.invokespecial 184, 3) := by decide +kernel
theorem dL_law_15 : decode cL_law 15 = .ok (.astore_n 2, 1) := by decide +kernel
theorem dL_law_16 : decode cL_law 16 = .ok (.aload_n 1, 1) := by decide +kernel
theorem dL_law_17 : decode cL_law 17 = .ok (.aload_n 0, 1) := by decide +kernel
theorem dL_law_18 : decode cL_law 18 = .ok (.bipush 10, 2) := by decide +kernel
theorem dL_law_20 : decode cL_law 20 = .ok (.invokestatic 185, 3) := by decide +kernel
theorem dL_law_23 : decode cL_law 23 = .ok (.aload_n 2, 1) := by decide +kernel
theorem dL_law_24 : decode cL_law 24 = .ok (.aload_n 0, 1) := by decide +kernel
theorem dL_law_25 : decode cL_law 25 = .ok (.bipush 10, 2) := by decide +kernel
theorem dL_law_27 : decode cL_law 27 = .ok (.invokestatic 185, 3) := by decide +kernel
theorem dL_law_30 : decode cL_law 30 = .ok (.aload_n 1, 1) := by decide +kernel
theorem dL_law_31 : decode cL_law 31 = .ok (.iconst 5, 1) := by decide +kernel
theorem dL_law_32 : decode cL_law 32 = .ok (.iconst 0, 1) := by decide +kernel
theorem dL_law_33 : decode cL_law 33 = .ok (.iconst 0, 1) := by decide +kernel
theorem dL_law_34 : decode cL_law 34 = .ok (.iconst 0, 1) := by decide +kernel
theorem dL_law_35 : decode cL_law 35 = .ok (.iconst 0, 1) := by decide +kernel
theorem dL_law_36 : decode cL_law 36 = .ok (.iconst 0, 1) := by decide +kernel
theorem dL_law_37 : decode cL_law 37 = .ok (.iconst 0, 1) := by decide +kernel
theorem dL_law_38 : decode cL_law 38 = .ok (.invokestatic 125, 3) := by decide +kernel
theorem dL_law_41 : decode cL_law 41 = .ok (.aload_n 2, 1) := by decide +kernel
theorem dL_law_42 : decode cL_law 42 = .ok (.iconst 5, 1) := by decide +kernel
theorem dL_law_43 : decode cL_law 43 = .ok (.iconst 0, 1) := by decide +kernel
theorem dL_law_44 : decode cL_law 44 = .ok (.iconst 0, 1) := by decide +kernel
theorem dL_law_45 : decode cL_law 45 = .ok (.iconst 0, 1) := by decide +kernel
theorem dL_law_46 : decode cL_law 46 = .ok (.iconst 0, 1) := by decide +kernel
theorem dL_law_47 : decode cL_law 47 = .ok (.iconst 0, 1) := by decide +kernel
theorem dL_law_48 : decode cL_law 48 = .ok (.iconst 0, 1) := by decide +kernel
theorem dL_law_49 : decode cL_law 49 = .ok (.invokestatic 125, 3) := by decide +kernel
theorem dL_law_52 : decode cL_law 52 = .ok (.if_icmp .ne 7, 3) := by decide +kernel
theorem dL_law_55 : decode cL_law 55 = .ok (.iconst 1, 1) := by decide +kernel
theorem dL_law_56 : decode cL_law 56 = .ok (.goto 4, 3) := by decide +kernel
theorem dL_law_59 : decode cL_law 59 = .ok (.iconst 0, 1) := by decide +kernel
theorem dL_law_60 : decode cL_law 60 = .ok (.istore_n 3, 1) := by decide +kernel
theorem dL_law_61 : decode cL_law 61 = .ok (.aload_n 1, 1) := by decide +kernel
theorem dL_law_62 : decode cL_law 62 = .ok (.bipush 8, 2) := by decide +kernel
theorem dL_law_64 : decode cL_law 64 = .ok (.iconst 0, 1) := by decide +kernel
theorem dL_law_65 : decode cL_law 65 = .ok (.iconst 1, 1) := by decide +kernel
theorem dL_law_66 : decode cL_law 66 = .ok (.aload_n 0, 1) := by decide +kernel
theorem dL_law_67 : decode cL_law 67 = .ok (.iconst 0, 1) := by decide +kernel
theorem dL_law_68 : decode cL_law 68 = .ok (.bipush 6, 2) := by decide +kernel
theorem dL_law_70 : decode cL_law 70 = .ok (.invokestatic 131, 3) := by decide +kernel
theorem dL_law_73 : decode cL_law 73 = .ok (.iadd, 1) := by decide +kernel
theorem dL_law_74 : decode cL_law 74 = .ok (.iconst 0, 1) := by decide +kernel
theorem dL_law_75 : decode cL_law 75 = .ok (.iconst 0, 1) := by decide +kernel
theorem dL_law_76 : decode cL_law 76 = .ok (.iconst 0, 1) := by decide +kernel
theorem dL_law_77 : decode cL_law 77 = .ok (.iconst 0, 1) := by decide +kernel
theorem dL_law_78 : decode cL_law 78 = .ok (.invokestatic 125, 3) := by decide +kernel
theorem dL_law_81 : decode cL_law 81 = .ok (.pop, 1) := by decide +kernel
theorem dL_law_82 : decode cL_law 82 = .ok (.aload_n 2, 1) := by decide +kernel
theorem dL_law_83 : decode cL_law 83 = .ok (.bipush 8, 2) := by decide +kernel
theorem dL_law_85 : decode cL_law 85 = .ok (.iconst 0, 1) := by decide +kernel
theorem dL_law_86 : decode cL_law 86 = .ok (.iconst 1, 1) := by decide +kernel
theorem dL_law_87 : decode cL_law 87 = .ok (.aload_n 0, 1) := by decide +kernel
theorem dL_law_88 : decode cL_law 88 = .ok (.iconst 0, 1) := by decide +kernel
theorem dL_law_89 : decode cL_law 89 = .ok (.bipush 6, 2) := by decide +kernel
theorem dL_law_91 : decode cL_law 91 = .ok (.invokestatic 131, 3) := by decide +kernel
theorem dL_law_94 : decode cL_law 94 = .ok (.iadd, 1) := by decide +kernel
theorem dL_law_95 : decode cL_law 95 = .ok (.iconst 0, 1) := by decide +kernel
theorem dL_law_96 : decode cL_law 96 = .ok (.iconst 0, 1) := by decide +kernel
theorem dL_law_97 : decode cL_law 97 = .ok (.iconst 0, 1) := by decide +kernel
theorem dL_law_98 : decode cL_law 98 = .ok (.iconst 0, 1) := by decide +kernel
theorem dL_law_99 : decode cL_law 99 = .ok (.invokestatic 125, 3) := by decide +kernel
theorem dL_law_102 : decode cL_law 102 = .ok (.pop, 1) := by decide +kernel
theorem dL_law_103 : decode cL_law 103 = .ok (.iconst 0, 1) := by decide +kernel
theorem dL_law_104 : decode cL_law 104 = .ok (.istore 4, 2) := by decide +kernel
theorem dL_law_106 : decode cL_law 106 = .ok (.iload 4, 2) := by decide +kernel
theorem dL_law_108 : decode cL_law 108 = .ok (.bipush 16, 2) := by decide +kernel
theorem dL_law_110 : decode cL_law 110 = .ok (.if_icmp .ge 109, 3) := by decide +kernel
theorem dL_law_113 : decode cL_law 113 = .ok (.iload_n 3, 1) := by decide +kernel
theorem dL_law_114 : decode cL_law 114 = .ok (.ifCond .eq 105, 3) := by decide +kernel
theorem dL_law_117 : decode cL_law 117 = .ok (.aload_n 1, 1) := by decide +kernel
theorem dL_law_118 : decode cL_law 118 = .ok (.aload_n 0, 1) := by decide +kernel
theorem dL_law_119 : decode cL_law 119 = .ok (.sipush 240, 3) := by decide +kernel
theorem dL_law_122 : decode cL_law 122 = .ok (.iconst 4, 1) := by decide +kernel
theorem dL_law_123 : decode cL_law 123 = .ok (.iload 4, 2) := by decide +kernel
theorem dL_law_125 : decode cL_law 125 = .ok (.imul, 1) := by decide +kernel
theorem dL_law_126 : decode cL_law 126 = .ok (.iadd, 1) := by decide +kernel
theorem dL_law_127 : decode cL_law 127 = .ok (.invokestatic 189, 3) := by decide +kernel
theorem dL_law_130 : decode cL_law 130 = .ok (.aload_n 2, 1) := by decide +kernel
theorem dL_law_131 : decode cL_law 131 = .ok (.aload_n 0, 1) := by decide +kernel
theorem dL_law_132 : decode cL_law 132 = .ok (.sipush 240, 3) := by decide +kernel
theorem dL_law_135 : decode cL_law 135 = .ok (.iconst 4, 1) := by decide +kernel
theorem dL_law_136 : decode cL_law 136 = .ok (.iload 4, 2) := by decide +kernel
theorem dL_law_138 : decode cL_law 138 = .ok (.imul, 1) := by decide +kernel
theorem dL_law_139 : decode cL_law 139 = .ok (.iadd, 1) := by decide +kernel
theorem dL_law_140 : decode cL_law 140 = .ok (.invokestatic 189, 3) := by decide +kernel
theorem dL_law_143 : decode cL_law 143 = .ok (.iconst 1, 1) := by decide +kernel
theorem dL_law_144 : decode cL_law 144 = .ok (.aload_n 0, 1) := by decide +kernel
theorem dL_law_145 : decode cL_law 145 = .ok (.sipush 400, 3) := by decide +kernel
theorem dL_law_148 : decode cL_law 148 = .ok (.iload 4, 2) := by decide +kernel
theorem dL_law_150 : decode cL_law 150 = .ok (.iadd, 1) := by decide +kernel
theorem dL_law_151 : decode cL_law 151 = .ok (.bipush 12, 2) := by decide +kernel
theorem dL_law_153 : decode cL_law 153 = .ok (.invokestatic 131, 3) := by decide +kernel
theorem dL_law_156 : decode cL_law 156 = .ok (.iadd, 1) := by decide +kernel
theorem dL_law_157 : decode cL_law 157 = .ok (.istore 5, 2) := by decide +kernel
theorem dL_law_159 : decode cL_law 159 = .ok (.aload_n 1, 1) := by decide +kernel
theorem dL_law_160 : decode cL_law 160 = .ok (.bipush 13, 2) := by decide +kernel
theorem dL_law_162 : decode cL_law 162 = .ok (.iload 5, 2) := by decide +kernel
theorem dL_law_164 : decode cL_law 164 = .ok (.iconst 0, 1) := by decide +kernel
theorem dL_law_165 : decode cL_law 165 = .ok (.iconst 0, 1) := by decide +kernel
theorem dL_law_166 : decode cL_law 166 = .ok (.iconst 0, 1) := by decide +kernel
theorem dL_law_167 : decode cL_law 167 = .ok (.iconst 0, 1) := by decide +kernel
theorem dL_law_168 : decode cL_law 168 = .ok (.iconst 0, 1) := by decide +kernel
theorem dL_law_169 : decode cL_law 169 = .ok (.invokestatic 125, 3) := by decide +kernel
theorem dL_law_172 : decode cL_law 172 = .ok (.aload_n 2, 1) := by decide +kernel
theorem dL_law_173 : decode cL_law 173 = .ok (.bipush 13, 2) := by decide +kernel
theorem dL_law_175 : decode cL_law 175 = .ok (.iload 5, 2) := by decide +kernel
theorem dL_law_177 : decode cL_law 177 = .ok (.iconst 0, 1) := by decide +kernel
theorem dL_law_178 : decode cL_law 178 = .ok (.iconst 0, 1) := by decide +kernel
theorem dL_law_179 : decode cL_law 179 = .ok (.iconst 0, 1) := by decide +kernel
theorem dL_law_180 : decode cL_law 180 = .ok (.iconst 0, 1) := by decide +kernel
theorem dL_law_181 : decode cL_law 181 = .ok (.iconst 0, 1) := by decide +kernel
theorem dL_law_182 : decode cL_law 182 = .ok (.invokestatic 125, 3) := by decide +kernel
theorem dL_law_185 : decode cL_law 185 = .ok (.if_icmp .ne 26, 3) := by decide +kernel
theorem dL_law_188 : decode cL_law 188 = .ok (.aload_n 1, 1) := by decide +kernel
theorem dL_law_189 : decode cL_law 189 = .ok (.invokestatic 192, 3) := by decide +kernel
theorem dL_law_192 : decode cL_law 192 = .ok (.aload_n 2, 1) := by decide +kernel
theorem dL_law_193 : decode cL_law 193 = .ok (.invokestatic 192, 3) := by decide +kernel
theorem dL_law_196 : decode cL_law 196 = .ok (.lcmp, 1) := by decide +kernel
theorem dL_law_197 : decode cL_law 197 = .ok (.ifCond .ne 14, 3) := by decide +kernel
theorem dL_law_200 : decode cL_law 200 = .ok (.aload_n 1, 1) := by decide +kernel
theorem dL_law_201 : decode cL_law 201 = .ok (.invokestatic 196, 3) := by decide +kernel
theorem dL_law_204 : decode cL_law 204 = .ok (.ifCond .eq 7, 3) := by decide +kernel
theorem dL_law_207 : decode cL_law 207 = .ok (.iconst 1, 1) := by decide +kernel
theorem dL_law_208 : decode cL_law 208 = .ok (.goto 4, 3) := by decide +kernel
theorem dL_law_211 : decode cL_law 211 = .ok (.iconst 0, 1) := by decide +kernel
theorem dL_law_212 : decode cL_law 212 = .ok (.istore_n 3, 1) := by decide +kernel
theorem dL_law_213 : decode cL_law 213 = .ok (.iinc 4 1, 3) := by decide +kernel
theorem dL_law_216 : decode cL_law 216 = .ok (.goto (-110), 3) := by decide +kernel
theorem dL_law_219 : decode cL_law 219 = .ok (.aload_n 1, 1) := by decide +kernel
theorem dL_law_220 : decode cL_law 220 = .ok (.bipush 8, 2) := by decide +kernel
theorem dL_law_222 : decode cL_law 222 = .ok (.iconst 0, 1) := by decide +kernel
theorem dL_law_223 : decode cL_law 223 = .ok (.iconst 1, 1) := by decide +kernel
theorem dL_law_224 : decode cL_law 224 = .ok (.iconst 0, 1) := by decide +kernel
theorem dL_law_225 : decode cL_law 225 = .ok (.iconst 0, 1) := by decide +kernel
theorem dL_law_226 : decode cL_law 226 = .ok (.iconst 0, 1) := by decide +kernel
theorem dL_law_227 : decode cL_law 227 = .ok (.iconst 0, 1) := by decide +kernel
theorem dL_law_228 : decode cL_law 228 = .ok (.invokestatic 125, 3) := by decide +kernel
theorem dL_law_231 : decode cL_law 231 = .ok (.pop, 1) := by decide +kernel
theorem dL_law_232 : decode cL_law 232 = .ok (.aload_n 2, 1) := by decide +kernel
theorem dL_law_233 : decode cL_law 233 = .ok (.bipush 8, 2) := by decide +kernel
theorem dL_law_235 : decode cL_law 235 = .ok (.iconst 0, 1) := by decide +kernel
theorem dL_law_236 : decode cL_law 236 = .ok (.iconst 1, 1) := by decide +kernel
theorem dL_law_237 : decode cL_law 237 = .ok (.iconst 0, 1) := by decide +kernel
theorem dL_law_238 : decode cL_law 238 = .ok (.iconst 0, 1) := by decide +kernel
theorem dL_law_239 : decode cL_law 239 = .ok (.iconst 0, 1) := by decide +kernel
theorem dL_law_240 : decode cL_law 240 = .ok (.iconst 0, 1) := by decide +kernel
theorem dL_law_241 : decode cL_law 241 = .ok (.invokestatic 125, 3) := by decide +kernel
theorem dL_law_244 : decode cL_law 244 = .ok (.pop, 1) := by decide +kernel
theorem dL_law_245 : decode cL_law 245 = .ok (.aload_n 1, 1) := by decide +kernel
theorem dL_law_246 : decode cL_law 246 = .ok (.bipush 8, 2) := by decide +kernel
theorem dL_law_248 : decode cL_law 248 = .ok (.iconst 1, 1) := by decide +kernel
theorem dL_law_249 : decode cL_law 249 = .ok (.iconst 0, 1) := by decide +kernel
theorem dL_law_250 : decode cL_law 250 = .ok (.iconst 0, 1) := by decide +kernel
theorem dL_law_251 : decode cL_law 251 = .ok (.iconst 0, 1) := by decide +kernel
theorem dL_law_252 : decode cL_law 252 = .ok (.iconst 0, 1) := by decide +kernel
theorem dL_law_253 : decode cL_law 253 = .ok (.iconst 0, 1) := by decide +kernel
theorem dL_law_254 : decode cL_law 254 = .ok (.invokestatic 125, 3) := by decide +kernel
theorem dL_law_257 : decode cL_law 257 = .ok (.pop, 1) := by decide +kernel
theorem dL_law_258 : decode cL_law 258 = .ok (.aload_n 2, 1) := by decide +kernel
theorem dL_law_259 : decode cL_law 259 = .ok (.bipush 8, 2) := by decide +kernel
theorem dL_law_261 : decode cL_law 261 = .ok (.iconst 1, 1) := by decide +kernel
theorem dL_law_262 : decode cL_law 262 = .ok (.iconst 0, 1) := by decide +kernel
theorem dL_law_263 : decode cL_law 263 = .ok (.iconst 0, 1) := by decide +kernel
theorem dL_law_264 : decode cL_law 264 = .ok (.iconst 0, 1) := by decide +kernel
theorem dL_law_265 : decode cL_law 265 = .ok (.iconst 0, 1) := by decide +kernel
theorem dL_law_266 : decode cL_law 266 = .ok (.iconst 0, 1) := by decide +kernel
theorem dL_law_267 : decode cL_law 267 = .ok (.invokestatic 125, 3) := by decide +kernel
theorem dL_law_270 : decode cL_law 270 = .ok (.pop, 1) := by decide +kernel
theorem dL_law_271 : decode cL_law 271 = .ok (.aload_n 1, 1) := by decide +kernel
theorem dL_law_272 : decode cL_law 272 = .ok (.iconst 1, 1) := by decide +kernel
theorem dL_law_273 : decode cL_law 273 = .ok (.invokevirtual 67, 3) := by decide +kernel
theorem dL_law_276 : decode cL_law 276 = .ok (.pop, 1) := by decide +kernel
theorem dL_law_277 : decode cL_law 277 = .ok (.aload_n 2, 1) := by decide +kernel
theorem dL_law_278 : decode cL_law 278 = .ok (.iconst 1, 1) := by decide +kernel
theorem dL_law_279 : decode cL_law 279 = .ok (.invokevirtual 67, 3) := by decide +kernel
theorem dL_law_282 : decode cL_law 282 = .ok (.pop, 1) := by decide +kernel
theorem dL_law_283 : decode cL_law 283 = .ok (.iload_n 3, 1) := by decide +kernel
theorem dL_law_284 : decode cL_law 284 = .ok (.ifCond .eq 59, 3) := by decide +kernel
theorem dL_law_287 : decode cL_law 287 = .ok (.aload_n 1, 1) := by decide +kernel
theorem dL_law_288 : decode cL_law 288 = .ok (.invokestatic 192, 3) := by decide +kernel
theorem dL_law_291 : decode cL_law 291 = .ok (.aload_n 2, 1) := by decide +kernel
theorem dL_law_292 : decode cL_law 292 = .ok (.invokestatic 192, 3) := by decide +kernel
theorem dL_law_295 : decode cL_law 295 = .ok (.lcmp, 1) := by decide +kernel
theorem dL_law_296 : decode cL_law 296 = .ok (.ifCond .ne 47, 3) := by decide +kernel
theorem dL_law_299 : decode cL_law 299 = .ok (.aload_n 1, 1) := by decide +kernel
theorem dL_law_300 : decode cL_law 300 = .ok (.invokevirtual 173, 3) := by decide +kernel
theorem dL_law_303 : decode cL_law 303 = .ok (.ifCond .ne 40, 3) := by decide +kernel
theorem dL_law_306 : decode cL_law 306 = .ok (.aload_n 1, 1) := by decide +kernel
theorem dL_law_307 : decode cL_law 307 = .ok (.invokevirtual 200, 3) := by decide +kernel
theorem dL_law_310 : decode cL_law 310 = .ok (.ifCond .eq 33, 3) := by decide +kernel
theorem dL_law_313 : decode cL_law 313 = .ok (.aload_n 1, 1) := by decide +kernel
theorem dL_law_314 : decode cL_law 314 = .ok (.invokevirtual 203, 3) := by decide +kernel
theorem dL_law_317 : decode cL_law 317 = .ok (.ifCond .eq 26, 3) := by decide +kernel
theorem dL_law_320 : decode cL_law 320 = .ok (.aload_n 1, 1) := by decide +kernel
theorem dL_law_321 : decode cL_law 321 = .ok (.invokevirtual 200, 3) := by decide +kernel
theorem dL_law_324 : decode cL_law 324 = .ok (.ifCond .ne 19, 3) := by decide +kernel
theorem dL_law_327 : decode cL_law 327 = .ok (.aload_n 1, 1) := by decide +kernel
theorem dL_law_328 : decode cL_law 328 = .ok (.invokestatic 192, 3) := by decide +kernel
theorem dL_law_331 : decode cL_law 331 = .ok (.aload_n 2, 1) := by decide +kernel
theorem dL_law_332 : decode cL_law 332 = .ok (.invokestatic 192, 3) := by decide +kernel
theorem dL_law_335 : decode cL_law 335 = .ok (.lcmp, 1) := by decide +kernel
theorem dL_law_336 : decode cL_law 336 = .ok (.ifCond .ne 7, 3) := by decide +kernel
theorem dL_law_339 : decode cL_law 339 = .ok (.iconst 1, 1) := by decide +kernel
theorem dL_law_340 : decode cL_law 340 = .ok (.goto 4, 3) := by decide +kernel
theorem dL_law_343 : decode cL_law 343 = .ok (.iconst 0, 1) := by decide +kernel
theorem dL_law_344 : decode cL_law 344 = .ok (.istore_n 3, 1) := by decide +kernel
theorem dL_law_345 : decode cL_law 345 = .ok (.aload_n 1, 1) := by decide +kernel
theorem dL_law_346 : decode cL_law 346 = .ok (.iconst 1, 1) := by decide +kernel
theorem dL_law_347 : decode cL_law 347 = .ok (.invokevirtual 67, 3) := by decide +kernel
theorem dL_law_350 : decode cL_law 350 = .ok (.pop, 1) := by decide +kernel
theorem dL_law_351 : decode cL_law 351 = .ok (.aload_n 2, 1) := by decide +kernel
theorem dL_law_352 : decode cL_law 352 = .ok (.iconst 1, 1) := by decide +kernel
theorem dL_law_353 : decode cL_law 353 = .ok (.invokevirtual 67, 3) := by decide +kernel
theorem dL_law_356 : decode cL_law 356 = .ok (.pop, 1) := by decide +kernel
theorem dL_law_357 : decode cL_law 357 = .ok (.iconst 0, 1) := by decide +kernel
theorem dL_law_358 : decode cL_law 358 = .ok (.istore 4, 2) := by decide +kernel
theorem dL_law_360 : decode cL_law 360 = .ok (.iload 4, 2) := by decide +kernel
theorem dL_law_362 : decode cL_law 362 = .ok (.bipush 6, 2) := by decide +kernel
theorem dL_law_364 : decode cL_law 364 = .ok (.if_icmp .ge 109, 3) := by decide +kernel
theorem dL_law_367 : decode cL_law 367 = .ok (.iload_n 3, 1) := by decide +kernel
theorem dL_law_368 : decode cL_law 368 = .ok (.ifCond .eq 105, 3) := by decide +kernel
theorem dL_law_371 : decode cL_law 371 = .ok (.aload_n 1, 1) := by decide +kernel
theorem dL_law_372 : decode cL_law 372 = .ok (.aload_n 0, 1) := by decide +kernel
theorem dL_law_373 : decode cL_law 373 = .ok (.sipush 320, 3) := by decide +kernel
theorem dL_law_376 : decode cL_law 376 = .ok (.iconst 4, 1) := by decide +kernel
theorem dL_law_377 : decode cL_law 377 = .ok (.iload 4, 2) := by decide +kernel
theorem dL_law_379 : decode cL_law 379 = .ok (.imul, 1) := by decide +kernel
theorem dL_law_380 : decode cL_law 380 = .ok (.iadd, 1) := by decide +kernel
theorem dL_law_381 : decode cL_law 381 = .ok (.invokestatic 189, 3) := by decide +kernel
theorem dL_law_384 : decode cL_law 384 = .ok (.aload_n 2, 1) := by decide +kernel
theorem dL_law_385 : decode cL_law 385 = .ok (.aload_n 0, 1) := by decide +kernel
theorem dL_law_386 : decode cL_law 386 = .ok (.sipush 320, 3) := by decide +kernel
theorem dL_law_389 : decode cL_law 389 = .ok (.iconst 4, 1) := by decide +kernel
theorem dL_law_390 : decode cL_law 390 = .ok (.iload 4, 2) := by decide +kernel
theorem dL_law_392 : decode cL_law 392 = .ok (.imul, 1) := by decide +kernel
theorem dL_law_393 : decode cL_law 393 = .ok (.iadd, 1) := by decide +kernel
theorem dL_law_394 : decode cL_law 394 = .ok (.invokestatic 189, 3) := by decide +kernel
theorem dL_law_397 : decode cL_law 397 = .ok (.iconst 1, 1) := by decide +kernel
theorem dL_law_398 : decode cL_law 398 = .ok (.aload_n 0, 1) := by decide +kernel
theorem dL_law_399 : decode cL_law 399 = .ok (.sipush 420, 3) := by decide +kernel
theorem dL_law_402 : decode cL_law 402 = .ok (.iload 4, 2) := by decide +kernel
theorem dL_law_404 : decode cL_law 404 = .ok (.iadd, 1) := by decide +kernel
theorem dL_law_405 : decode cL_law 405 = .ok (.bipush 9, 2) := by decide +kernel
theorem dL_law_407 : decode cL_law 407 = .ok (.invokestatic 131, 3) := by decide +kernel
theorem dL_law_410 : decode cL_law 410 = .ok (.iadd, 1) := by decide +kernel
theorem dL_law_411 : decode cL_law 411 = .ok (.istore 5, 2) := by decide +kernel
theorem dL_law_413 : decode cL_law 413 = .ok (.aload_n 1, 1) := by decide +kernel
theorem dL_law_414 : decode cL_law 414 = .ok (.bipush 13, 2) := by decide +kernel
theorem dL_law_416 : decode cL_law 416 = .ok (.iload 5, 2) := by decide +kernel
theorem dL_law_418 : decode cL_law 418 = .ok (.iconst 0, 1) := by decide +kernel
theorem dL_law_419 : decode cL_law 419 = .ok (.iconst 0, 1) := by decide +kernel
theorem dL_law_420 : decode cL_law 420 = .ok (.iconst 0, 1) := by decide +kernel
theorem dL_law_421 : decode cL_law 421 = .ok (.iconst 0, 1) := by decide +kernel
theorem dL_law_422 : decode cL_law 422 = .ok (.iconst 0, 1) := by decide +kernel
theorem dL_law_423 : decode cL_law 423 = .ok (.invokestatic 125, 3) := by decide +kernel
theorem dL_law_426 : decode cL_law 426 = .ok (.aload_n 2, 1) := by decide +kernel
theorem dL_law_427 : decode cL_law 427 = .ok (.bipush 13, 2) := by decide +kernel
theorem dL_law_429 : decode cL_law 429 = .ok (.iload 5, 2) := by decide +kernel
theorem dL_law_431 : decode cL_law 431 = .ok (.iconst 0, 1) := by decide +kernel
theorem dL_law_432 : decode cL_law 432 = .ok (.iconst 0, 1) := by decide +kernel
theorem dL_law_433 : decode cL_law 433 = .ok (.iconst 0, 1) := by decide +kernel
theorem dL_law_434 : decode cL_law 434 = .ok (.iconst 0, 1) := by decide +kernel
theorem dL_law_435 : decode cL_law 435 = .ok (.iconst 0, 1) := by decide +kernel
theorem dL_law_436 : decode cL_law 436 = .ok (.invokestatic 125, 3) := by decide +kernel
theorem dL_law_439 : decode cL_law 439 = .ok (.if_icmp .ne 26, 3) := by decide +kernel
theorem dL_law_442 : decode cL_law 442 = .ok (.aload_n 1, 1) := by decide +kernel
theorem dL_law_443 : decode cL_law 443 = .ok (.invokestatic 192, 3) := by decide +kernel
theorem dL_law_446 : decode cL_law 446 = .ok (.aload_n 2, 1) := by decide +kernel
theorem dL_law_447 : decode cL_law 447 = .ok (.invokestatic 192, 3) := by decide +kernel
theorem dL_law_450 : decode cL_law 450 = .ok (.lcmp, 1) := by decide +kernel
theorem dL_law_451 : decode cL_law 451 = .ok (.ifCond .ne 14, 3) := by decide +kernel
theorem dL_law_454 : decode cL_law 454 = .ok (.aload_n 1, 1) := by decide +kernel
theorem dL_law_455 : decode cL_law 455 = .ok (.invokestatic 196, 3) := by decide +kernel
theorem dL_law_458 : decode cL_law 458 = .ok (.ifCond .eq 7, 3) := by decide +kernel
theorem dL_law_461 : decode cL_law 461 = .ok (.iconst 1, 1) := by decide +kernel
theorem dL_law_462 : decode cL_law 462 = .ok (.goto 4, 3) := by decide +kernel
theorem dL_law_465 : decode cL_law 465 = .ok (.iconst 0, 1) := by decide +kernel
theorem dL_law_466 : decode cL_law 466 = .ok (.istore_n 3, 1) := by decide +kernel
theorem dL_law_467 : decode cL_law 467 = .ok (.iinc 4 1, 3) := by decide +kernel
theorem dL_law_470 : decode cL_law 470 = .ok (.goto (-110), 3) := by decide +kernel
theorem dL_law_473 : decode cL_law 473 = .ok (.aload_n 1, 1) := by decide +kernel
theorem dL_law_474 : decode cL_law 474 = .ok (.invokevirtual 206, 3) := by decide +kernel
theorem dL_law_477 : decode cL_law 477 = .ok (.istore 4, 2) := by decide +kernel
theorem dL_law_479 : decode cL_law 479 = .ok (.iload_n 3, 1) := by decide +kernel
theorem dL_law_480 : decode cL_law 480 = .ok (.ifCond .eq 26, 3) := by decide +kernel
theorem dL_law_483 : decode cL_law 483 = .ok (.iload 4, 2) := by decide +kernel
theorem dL_law_485 : decode cL_law 485 = .ok (.ifCond .eq 21, 3) := by decide +kernel
theorem dL_law_488 : decode cL_law 488 = .ok (.aload_n 1, 1) := by decide +kernel
theorem dL_law_489 : decode cL_law 489 = .ok (.invokevirtual 206, 3) := by decide +kernel
theorem dL_law_492 : decode cL_law 492 = .ok (.ifCond .ne 14, 3) := by decide +kernel
theorem dL_law_495 : decode cL_law 495 = .ok (.aload_n 2, 1) := by decide +kernel
theorem dL_law_496 : decode cL_law 496 = .ok (.invokevirtual 206, 3) := by decide +kernel
theorem dL_law_499 : decode cL_law 499 = .ok (.ifCond .ne 7, 3) := by decide +kernel
theorem dL_law_502 : decode cL_law 502 = .ok (.iconst 1, 1) := by decide +kernel
theorem dL_law_503 : decode cL_law 503 = .ok (.goto 4, 3) := by decide +kernel
theorem dL_law_506 : decode cL_law 506 = .ok (.iconst 0, 1) := by decide +kernel
theorem dL_law_507 : decode cL_law 507 = .ok (.istore_n 3, 1) := by decide +kernel
theorem dL_law_508 : decode cL_law 508 = .ok (.aload_n 2, 1) := by decide +kernel
theorem dL_law_509 : decode cL_law 509 = .ok (.bipush 8, 2) := by decide +kernel
theorem dL_law_511 : decode cL_law 511 = .ok (.iconst 0, 1) := by decide +kernel
theorem dL_law_512 : decode cL_law 512 = .ok (.iconst 1, 1) := by decide +kernel
theorem dL_law_513 : decode cL_law 513 = .ok (.iconst 0, 1) := by decide +kernel
theorem dL_law_514 : decode cL_law 514 = .ok (.iconst 0, 1) := by decide +kernel
theorem dL_law_515 : decode cL_law 515 = .ok (.iconst 0, 1) := by decide +kernel
theorem dL_law_516 : decode cL_law 516 = .ok (.iconst 0, 1) := by decide +kernel
theorem dL_law_517 : decode cL_law 517 = .ok (.invokestatic 125, 3) := by decide +kernel
theorem dL_law_520 : decode cL_law 520 = .ok (.pop, 1) := by decide +kernel
theorem dL_law_521 : decode cL_law 521 = .ok (.aload_n 2, 1) := by decide +kernel
theorem dL_law_522 : decode cL_law 522 = .ok (.bipush 8, 2) := by decide +kernel
theorem dL_law_524 : decode cL_law 524 = .ok (.iconst 1, 1) := by decide +kernel
theorem dL_law_525 : decode cL_law 525 = .ok (.iconst 0, 1) := by decide +kernel
theorem dL_law_526 : decode cL_law 526 = .ok (.iconst 0, 1) := by decide +kernel
theorem dL_law_527 : decode cL_law 527 = .ok (.iconst 0, 1) := by decide +kernel
theorem dL_law_528 : decode cL_law 528 = .ok (.iconst 0, 1) := by decide +kernel
theorem dL_law_529 : decode cL_law 529 = .ok (.iconst 0, 1) := by decide +kernel
theorem dL_law_530 : decode cL_law 530 = .ok (.invokestatic 125, 3) := by decide +kernel
theorem dL_law_533 : decode cL_law 533 = .ok (.pop, 1) := by decide +kernel
theorem dL_law_534 : decode cL_law 534 = .ok (.lconst 0, 1) := by decide +kernel
theorem dL_law_535 : decode cL_law 535 = .ok (.lstore 5, 2) := by decide +kernel
theorem dL_law_537 : decode cL_law 537 = .ok (.iconst 0, 1) := by decide +kernel
theorem dL_law_538 : decode cL_law 538 = .ok (.istore 7, 2) := by decide +kernel
theorem dL_law_540 : decode cL_law 540 = .ok (.iload 7, 2) := by decide +kernel
theorem dL_law_542 : decode cL_law 542 = .ok (.bipush 8, 2) := by decide +kernel
theorem dL_law_544 : decode cL_law 544 = .ok (.if_icmp .ge 41, 3) := by decide +kernel
theorem dL_law_547 : decode cL_law 547 = .ok (.ldc2_w 156, 3) := by decide +kernel
theorem dL_law_550 : decode cL_law 550 = .ok (.lload 5, 2) := by decide +kernel
theorem dL_law_552 : decode cL_law 552 = .ok (.lmul, 1) := by decide +kernel
theorem dL_law_553 : decode cL_law 553 = .ok (.aload_n 2, 1) := by decide +kernel
theorem dL_law_554 : decode cL_law 554 = .ok (.bipush 18, 2) := by decide +kernel
theorem dL_law_556 : decode cL_law 556 = .ok (.iload 7, 2) := by decide +kernel
theorem dL_law_558 : decode cL_law 558 = .ok (.invokestatic 158, 3) := by decide +kernel
theorem dL_law_561 : decode cL_law 561 = .ok (.i2l, 1) := by decide +kernel
theorem dL_law_562 : decode cL_law 562 = .ok (.ladd, 1) := by decide +kernel
theorem dL_law_563 : decode cL_law 563 = .ok (.ldc2_w 165, 3) := by decide +kernel
theorem dL_law_566 : decode cL_law 566 = .ok (.aload_n 2, 1) := by decide +kernel
theorem dL_law_567 : decode cL_law 567 = .ok (.bipush 19, 2) := by decide +kernel
theorem dL_law_569 : decode cL_law 569 = .ok (.iload 7, 2) := by decide +kernel
theorem dL_law_571 : decode cL_law 571 = .ok (.invokestatic 158, 3) := by decide +kernel
theorem dL_law_574 : decode cL_law 574 = .ok (.i2l, 1) := by decide +kernel
theorem dL_law_575 : decode cL_law 575 = .ok (.lmul, 1) := by decide +kernel
theorem dL_law_576 : decode cL_law 576 = .ok (.ladd, 1) := by decide +kernel
theorem dL_law_577 : decode cL_law 577 = .ok (.lstore 5, 2) := by decide +kernel
theorem dL_law_579 : decode cL_law 579 = .ok (.iinc 7 1, 3) := by decide +kernel
theorem dL_law_582 : decode cL_law 582 = .ok (.goto (-42), 3) := by decide +kernel
theorem dL_law_585 : decode cL_law 585 = .ok (.aload_n 2, 1) := by decide +kernel
theorem dL_law_586 : decode cL_law 586 = .ok (.bipush 25, 2) := by decide +kernel
theorem dL_law_588 : decode cL_law 588 = .ok (.iconst 0, 1) := by decide +kernel
theorem dL_law_589 : decode cL_law 589 = .ok (.invokestatic 158, 3) := by decide +kernel
theorem dL_law_592 : decode cL_law 592 = .ok (.istore 7, 2) := by decide +kernel
theorem dL_law_594 : decode cL_law 594 = .ok (.aload_n 2, 1) := by decide +kernel
theorem dL_law_595 : decode cL_law 595 = .ok (.invokevirtual 167, 3) := by decide +kernel
theorem dL_law_598 : decode cL_law 598 = .ok (.lstore 8, 2) := by decide +kernel
theorem dL_law_600 : decode cL_law 600 = .ok (.iconst 0, 1) := by decide +kernel
theorem dL_law_601 : decode cL_law 601 = .ok (.istore 10, 2) := by decide +kernel
theorem dL_law_603 : decode cL_law 603 = .ok (.aload_n 2, 1) := by decide +kernel
theorem dL_law_604 : decode cL_law 604 = .ok (.bipush 10, 2) := by decide +kernel
theorem dL_law_606 : decode cL_law 606 = .ok (.iconst 0, 1) := by decide +kernel
theorem dL_law_607 : decode cL_law 607 = .ok (.iconst 1, 1) := by decide +kernel
theorem dL_law_608 : decode cL_law 608 = .ok (.iconst 0, 1) := by decide +kernel
theorem dL_law_609 : decode cL_law 609 = .ok (.iconst 0, 1) := by decide +kernel
theorem dL_law_610 : decode cL_law 610 = .ok (.iconst 0, 1) := by decide +kernel
theorem dL_law_611 : decode cL_law 611 = .ok (.iconst 0, 1) := by decide +kernel
theorem dL_law_612 : decode cL_law 612 = .ok (.invokestatic 125, 3) := by decide +kernel
theorem dL_law_615 : decode cL_law 615 = .ok (.pop, 1) := by decide +kernel
theorem dL_law_616 : decode cL_law 616 = .ok (.aload_n 2, 1) := by decide +kernel
theorem dL_law_617 : decode cL_law 617 = .ok (.iconst 3, 1) := by decide +kernel
theorem dL_law_618 : decode cL_law 618 = .ok (.invokevirtual 67, 3) := by decide +kernel
theorem dL_law_621 : decode cL_law 621 = .ok (.pop, 1) := by decide +kernel
theorem dL_law_622 : decode cL_law 622 = .ok (.aload_n 2, 1) := by decide +kernel
theorem dL_law_623 : decode cL_law 623 = .ok (.bipush 25, 2) := by decide +kernel
theorem dL_law_625 : decode cL_law 625 = .ok (.iconst 0, 1) := by decide +kernel
theorem dL_law_626 : decode cL_law 626 = .ok (.invokestatic 158, 3) := by decide +kernel
theorem dL_law_629 : decode cL_law 629 = .ok (.iload 7, 2) := by decide +kernel
theorem dL_law_631 : decode cL_law 631 = .ok (.iconst 3, 1) := by decide +kernel
theorem dL_law_632 : decode cL_law 632 = .ok (.iadd, 1) := by decide +kernel
theorem dL_law_633 : decode cL_law 633 = .ok (.if_icmp .ne 7, 3) := by decide +kernel
theorem dL_law_636 : decode cL_law 636 = .ok (.iconst 1, 1) := by decide +kernel
theorem dL_law_637 : decode cL_law 637 = .ok (.goto 4, 3) := by decide +kernel
theorem dL_law_640 : decode cL_law 640 = .ok (.iconst 0, 1) := by decide +kernel
theorem dL_law_641 : decode cL_law 641 = .ok (.istore 11, 2) := by decide +kernel
theorem dL_law_643 : decode cL_law 643 = .ok (.iconst 0, 1) := by decide +kernel
theorem dL_law_644 : decode cL_law 644 = .ok (.istore 12, 2) := by decide +kernel
theorem dL_law_646 : decode cL_law 646 = .ok (.iload 12, 2) := by decide +kernel
theorem dL_law_648 : decode cL_law 648 = .ok (.bipush 8, 2) := by decide +kernel
theorem dL_law_650 : decode cL_law 650 = .ok (.if_icmp .ge 33, 3) := by decide +kernel
theorem dL_law_653 : decode cL_law 653 = .ok (.iload 10, 2) := by decide +kernel
theorem dL_law_655 : decode cL_law 655 = .ok (.aload_n 2, 1) := by decide +kernel
theorem dL_law_656 : decode cL_law 656 = .ok (.bipush 17, 2) := by decide +kernel
theorem dL_law_658 : decode cL_law 658 = .ok (.iload 12, 2) := by decide +kernel
theorem dL_law_660 : decode cL_law 660 = .ok (.invokestatic 158, 3) := by decide +kernel
theorem dL_law_663 : decode cL_law 663 = .ok (.ifCond .ne 7, 3) := by decide +kernel
theorem dL_law_666 : decode cL_law 666 = .ok (.iconst 1, 1) := by decide +kernel
theorem dL_law_667 : decode cL_law 667 = .ok (.goto 4, 3) := by decide +kernel
theorem dL_law_670 : decode cL_law 670 = .ok (.iconst 0, 1) := by decide +kernel
theorem dL_law_671 : decode cL_law 671 = .ok (.invokestatic 43, 3) := by decide +kernel
theorem dL_law_674 : decode cL_law 674 = .ok (.iadd, 1) := by decide +kernel
theorem dL_law_675 : decode cL_law 675 = .ok (.istore 10, 2) := by decide +kernel
theorem dL_law_677 : decode cL_law 677 = .ok (.iinc 12 1, 3) := by decide +kernel
theorem dL_law_680 : decode cL_law 680 = .ok (.goto (-34), 3) := by decide +kernel
theorem dL_law_683 : decode cL_law 683 = .ok (.lconst 0, 1) := by decide +kernel
theorem dL_law_684 : decode cL_law 684 = .ok (.lstore 12, 2) := by decide +kernel
theorem dL_law_686 : decode cL_law 686 = .ok (.iconst 0, 1) := by decide +kernel
theorem dL_law_687 : decode cL_law 687 = .ok (.istore 14, 2) := by decide +kernel
theorem dL_law_689 : decode cL_law 689 = .ok (.iload 14, 2) := by decide +kernel
theorem dL_law_691 : decode cL_law 691 = .ok (.bipush 8, 2) := by decide +kernel
theorem dL_law_693 : decode cL_law 693 = .ok (.if_icmp .ge 41, 3) := by decide +kernel
theorem dL_law_696 : decode cL_law 696 = .ok (.ldc2_w 156, 3) := by decide +kernel
theorem dL_law_699 : decode cL_law 699 = .ok (.lload 12, 2) := by decide +kernel
theorem dL_law_701 : decode cL_law 701 = .ok (.lmul, 1) := by decide +kernel
theorem dL_law_702 : decode cL_law 702 = .ok (.aload_n 2, 1) := by decide +kernel
theorem dL_law_703 : decode cL_law 703 = .ok (.bipush 18, 2) := by decide +kernel
theorem dL_law_705 : decode cL_law 705 = .ok (.iload 14, 2) := by decide +kernel
theorem dL_law_707 : decode cL_law 707 = .ok (.invokestatic 158, 3) := by decide +kernel
theorem dL_law_710 : decode cL_law 710 = .ok (.i2l, 1) := by decide +kernel
theorem dL_law_711 : decode cL_law 711 = .ok (.ladd, 1) := by decide +kernel
theorem dL_law_712 : decode cL_law 712 = .ok (.ldc2_w 165, 3) := by decide +kernel
theorem dL_law_715 : decode cL_law 715 = .ok (.aload_n 2, 1) := by decide +kernel
theorem dL_law_716 : decode cL_law 716 = .ok (.bipush 19, 2) := by decide +kernel
theorem dL_law_718 : decode cL_law 718 = .ok (.iload 14, 2) := by decide +kernel
theorem dL_law_720 : decode cL_law 720 = .ok (.invokestatic 158, 3) := by decide +kernel
theorem dL_law_723 : decode cL_law 723 = .ok (.i2l, 1) := by decide +kernel
theorem dL_law_724 : decode cL_law 724 = .ok (.lmul, 1) := by decide +kernel
theorem dL_law_725 : decode cL_law 725 = .ok (.ladd, 1) := by decide +kernel
theorem dL_law_726 : decode cL_law 726 = .ok (.lstore 12, 2) := by decide +kernel
theorem dL_law_728 : decode cL_law 728 = .ok (.iinc 14 1, 3) := by decide +kernel
theorem dL_law_731 : decode cL_law 731 = .ok (.goto (-42), 3) := by decide +kernel
theorem dL_law_734 : decode cL_law 734 = .ok (.iload_n 3, 1) := by decide +kernel
theorem dL_law_735 : decode cL_law 735 = .ok (.ifCond .eq 44, 3) := by decide +kernel
theorem dL_law_738 : decode cL_law 738 = .ok (.iload 11, 2) := by decide +kernel
theorem dL_law_740 : decode cL_law 740 = .ok (.ifCond .eq 35, 3) := by decide +kernel
theorem dL_law_743 : decode cL_law 743 = .ok (.aload_n 2, 1) := by decide +kernel
theorem dL_law_744 : decode cL_law 744 = .ok (.invokevirtual 173, 3) := by decide +kernel
theorem dL_law_747 : decode cL_law 747 = .ok (.ifCond .eq 32, 3) := by decide +kernel
theorem dL_law_750 : decode cL_law 750 = .ok (.iload 10, 2) := by decide +kernel
theorem dL_law_752 : decode cL_law 752 = .ok (.bipush 8, 2) := by decide +kernel
theorem dL_law_754 : decode cL_law 754 = .ok (.if_icmp .ne 25, 3) := by decide +kernel
theorem dL_law_757 : decode cL_law 757 = .ok (.lload 12, 2) := by decide +kernel
theorem dL_law_759 : decode cL_law 759 = .ok (.lload 5, 2) := by decide +kernel
theorem dL_law_761 : decode cL_law 761 = .ok (.lcmp, 1) := by decide +kernel
theorem dL_law_762 : decode cL_law 762 = .ok (.ifCond .ne 17, 3) := by decide +kernel
theorem dL_law_765 : decode cL_law 765 = .ok (.aload_n 2, 1) := by decide +kernel
theorem dL_law_766 : decode cL_law 766 = .ok (.invokevirtual 167, 3) := by decide +kernel
theorem dL_law_769 : decode cL_law 769 = .ok (.lload 8, 2) := by decide +kernel
theorem dL_law_771 : decode cL_law 771 = .ok (.lcmp, 1) := by decide +kernel
theorem dL_law_772 : decode cL_law 772 = .ok (.ifCond .ne 7, 3) := by decide +kernel
theorem dL_law_775 : decode cL_law 775 = .ok (.iconst 1, 1) := by decide +kernel
theorem dL_law_776 : decode cL_law 776 = .ok (.goto 4, 3) := by decide +kernel
theorem dL_law_779 : decode cL_law 779 = .ok (.iconst 0, 1) := by decide +kernel
theorem dL_law_780 : decode cL_law 780 = .ok (.istore_n 3, 1) := by decide +kernel
theorem dL_law_781 : decode cL_law 781 = .ok (.aload_n 2, 1) := by decide +kernel
theorem dL_law_782 : decode cL_law 782 = .ok (.invokevirtual 209, 3) := by decide +kernel
theorem dL_law_785 : decode cL_law 785 = .ok (.istore 14, 2) := by decide +kernel
theorem dL_law_787 : decode cL_law 787 = .ok (.iload_n 3, 1) := by decide +kernel
theorem dL_law_788 : decode cL_law 788 = .ok (.ifCond .eq 72, 3) := by decide +kernel
theorem dL_law_791 : decode cL_law 791 = .ok (.iload 14, 2) := by decide +kernel
theorem dL_law_793 : decode cL_law 793 = .ok (.aload_n 2, 1) := by decide +kernel
theorem dL_law_794 : decode cL_law 794 = .ok (.invokevirtual 153, 3) := by decide +kernel
theorem dL_law_797 : decode cL_law 797 = .ok (.if_icmp .ne 63, 3) := by decide +kernel
theorem dL_law_800 : decode cL_law 800 = .ok (.aload_n 2, 1) := by decide +kernel
theorem dL_law_801 : decode cL_law 801 = .ok (.invokevirtual 173, 3) := by decide +kernel
theorem dL_law_804 : decode cL_law 804 = .ok (.ifCond .ne 56, 3) := by decide +kernel
theorem dL_law_807 : decode cL_law 807 = .ok (.aload_n 2, 1) := by decide +kernel
theorem dL_law_808 : decode cL_law 808 = .ok (.invokevirtual 200, 3) := by decide +kernel
theorem dL_law_811 : decode cL_law 811 = .ok (.ifCond .eq 49, 3) := by decide +kernel
theorem dL_law_814 : decode cL_law 814 = .ok (.aload_n 2, 1) := by decide +kernel
theorem dL_law_815 : decode cL_law 815 = .ok (.invokevirtual 162, 3) := by decide +kernel
theorem dL_law_818 : decode cL_law 818 = .ok (.ifCond .ne 42, 3) := by decide +kernel
theorem dL_law_821 : decode cL_law 821 = .ok (.aload_n 2, 1) := by decide +kernel
theorem dL_law_822 : decode cL_law 822 = .ok (.bipush 20, 2) := by decide +kernel
theorem dL_law_824 : decode cL_law 824 = .ok (.iconst 0, 1) := by decide +kernel
theorem dL_law_825 : decode cL_law 825 = .ok (.invokestatic 158, 3) := by decide +kernel
theorem dL_law_828 : decode cL_law 828 = .ok (.iconst 1, 1) := by decide +kernel
theorem dL_law_829 : decode cL_law 829 = .ok (.if_icmp .ne 31, 3) := by decide +kernel
theorem dL_law_832 : decode cL_law 832 = .ok (.aload_n 2, 1) := by decide +kernel
theorem dL_law_833 : decode cL_law 833 = .ok (.bipush 21, 2) := by decide +kernel
theorem dL_law_835 : decode cL_law 835 = .ok (.iconst 0, 1) := by decide +kernel
theorem dL_law_836 : decode cL_law 836 = .ok (.invokestatic 158, 3) := by decide +kernel
theorem dL_law_839 : decode cL_law 839 = .ok (.ifCond .ne 21, 3) := by decide +kernel
theorem dL_law_842 : decode cL_law 842 = .ok (.aload_n 2, 1) := by decide +kernel
theorem dL_law_843 : decode cL_law 843 = .ok (.invokevirtual 203, 3) := by decide +kernel
theorem dL_law_846 : decode cL_law 846 = .ok (.ifCond .ne 14, 3) := by decide +kernel
theorem dL_law_849 : decode cL_law 849 = .ok (.aload_n 2, 1) := by decide +kernel
theorem dL_law_850 : decode cL_law 850 = .ok (.invokevirtual 173, 3) := by decide +kernel
theorem dL_law_853 : decode cL_law 853 = .ok (.ifCond .eq 7, 3) := by decide +kernel
theorem dL_law_856 : decode cL_law 856 = .ok (.iconst 1, 1) := by decide +kernel
theorem dL_law_857 : decode cL_law 857 = .ok (.goto 4, 3) := by decide +kernel
theorem dL_law_860 : decode cL_law 860 = .ok (.iconst 0, 1) := by decide +kernel
theorem dL_law_861 : decode cL_law 861 = .ok (.istore_n 3, 1) := by decide +kernel
theorem dL_law_862 : decode cL_law 862 = .ok (.iconst 0, 1) := by decide +kernel
theorem dL_law_863 : decode cL_law 863 = .ok (.istore 15, 2) := by decide +kernel
theorem dL_law_865 : decode cL_law 865 = .ok (.iload 15, 2) := by decide +kernel
theorem dL_law_867 : decode cL_law 867 = .ok (.bipush 8, 2) := by decide +kernel
theorem dL_law_869 : decode cL_law 869 = .ok (.if_icmp .ge 54, 3) := by decide +kernel
theorem dL_law_872 : decode cL_law 872 = .ok (.iload_n 3, 1) := by decide +kernel
theorem dL_law_873 : decode cL_law 873 = .ok (.ifCond .eq 50, 3) := by decide +kernel
theorem dL_law_876 : decode cL_law 876 = .ok (.aload_n 2, 1) := by decide +kernel
theorem dL_law_877 : decode cL_law 877 = .ok (.bipush 18, 2) := by decide +kernel
theorem dL_law_879 : decode cL_law 879 = .ok (.iload 15, 2) := by decide +kernel
theorem dL_law_881 : decode cL_law 881 = .ok (.invokestatic 158, 3) := by decide +kernel
theorem dL_law_884 : decode cL_law 884 = .ok (.ifCond .ne 31, 3) := by decide +kernel
theorem dL_law_887 : decode cL_law 887 = .ok (.aload_n 2, 1) := by decide +kernel
theorem dL_law_888 : decode cL_law 888 = .ok (.bipush 19, 2) := by decide +kernel
theorem dL_law_890 : decode cL_law 890 = .ok (.iload 15, 2) := by decide +kernel
theorem dL_law_892 : decode cL_law 892 = .ok (.invokestatic 158, 3) := by decide +kernel
theorem dL_law_895 : decode cL_law 895 = .ok (.ifCond .ne 20, 3) := by decide +kernel
theorem dL_law_898 : decode cL_law 898 = .ok (.aload_n 2, 1) := by decide +kernel
theorem dL_law_899 : decode cL_law 899 = .ok (.bipush 22, 2) := by decide +kernel
theorem dL_law_901 : decode cL_law 901 = .ok (.iload 15, 2) := by decide +kernel
theorem dL_law_903 : decode cL_law 903 = .ok (.invokestatic 158, 3) := by decide +kernel
theorem dL_law_906 : decode cL_law 906 = .ok (.bipush 110, 2) := by decide +kernel
theorem dL_law_908 : decode cL_law 908 = .ok (.if_icmp .ne 7, 3) := by decide +kernel
theorem dL_law_911 : decode cL_law 911 = .ok (.iconst 1, 1) := by decide +kernel
theorem dL_law_912 : decode cL_law 912 = .ok (.goto 4, 3) := by decide +kernel
theorem dL_law_915 : decode cL_law 915 = .ok (.iconst 0, 1) := by decide +kernel
theorem dL_law_916 : decode cL_law 916 = .ok (.istore_n 3, 1) := by decide +kernel
theorem dL_law_917 : decode cL_law 917 = .ok (.iinc 15 1, 3) := by decide +kernel
theorem dL_law_920 : decode cL_law 920 = .ok (.goto (-55), 3) := by decide +kernel
theorem dL_law_923 : decode cL_law 923 = .ok (.iload_n 3, 1) := by decide +kernel
theorem dL_law_924 : decode cL_law 924 = .ok (.ifCond .eq 18, 3) := by decide +kernel
theorem dL_law_927 : decode cL_law 927 = .ok (.aload_n 2, 1) := by decide +kernel
theorem dL_law_928 : decode cL_law 928 = .ok (.invokevirtual 212, 3) := by decide +kernel
theorem dL_law_931 : decode cL_law 931 = .ok (.aload_n 1, 1) := by decide +kernel
theorem dL_law_932 : decode cL_law 932 = .ok (.invokevirtual 212, 3) := by decide +kernel
theorem dL_law_935 : decode cL_law 935 = .ok (.if_icmp .ne 7, 3) := by decide +kernel
theorem dL_law_938 : decode cL_law 938 = .ok (.iconst 1, 1) := by decide +kernel
theorem dL_law_939 : decode cL_law 939 = .ok (.goto 4, 3) := by decide +kernel
theorem dL_law_942 : decode cL_law 942 = .ok (.iconst 0, 1) := by decide +kernel
theorem dL_law_943 : decode cL_law 943 = .ok (.ireturn, 1) := by decide +kernel
