theorem d_R_init_0 : decode b_R_init 0 = .ok (.aload_n 0, 1) := by decide +kernel
theorem d_R_init_1 : decode b_R_init 1 = .ok (.invokespecial 3, 3) := by decide +kernel
theorem d_R_init_4 : decode b_R_init 4 = .ok (.aload_n 0, 1) := by decide +kernel
theorem d_R_init_5 : decode b_R_init 5 = .ok (.sipush 632, 3) := by decide +kernel
theorem d_R_init_8 : decode b_R_init 8 = .ok (.newarray .int, 2) := by decide +kernel
theorem d_R_init_10 : decode b_R_init 10 = .ok (.putfield 9, 3) := by decide +kernel
theorem d_R_init_13 : decode b_R_init 13 = .ok (.aload_n 0, 1) := by decide +kernel
theorem d_R_init_14 : decode b_R_init 14 = .ok (.iconst 0, 1) := by decide +kernel
theorem d_R_init_15 : decode b_R_init 15 = .ok (.putfield 15, 3) := by decide +kernel
theorem d_R_init_18 : decode b_R_init 18 = .ok (.aload_n 0, 1) := by decide +kernel
theorem d_R_init_19 : decode b_R_init 19 = .ok (.iconst 0, 1) := by decide +kernel
theorem d_R_init_20 : decode b_R_init 20 = .ok (.putfield 19, 3) := by decide +kernel
theorem d_R_init_23 : decode b_R_init 23 = .ok (.return_, 1) := by decide +kernel
theorem d_R_become_0 : decode b_R_become 0 = .ok (.lload_n 1, 1) := by decide +kernel
theorem d_R_become_1 : decode b_R_become 1 = .ok (.lconst 0, 1) := by decide +kernel
theorem d_R_become_2 : decode b_R_become 2 = .ok (.lcmp, 1) := by decide +kernel
theorem d_R_become_3 : decode b_R_become 3 = .ok (.ifCond .ge 8, 3) := by decide +kernel
theorem d_R_become_6 : decode b_R_become 6 = .ok (.lload_n 1, 1) := by decide +kernel
theorem d_R_become_7 : decode b_R_become 7 = .ok (.lneg, 1) := by decide +kernel
theorem d_R_become_8 : decode b_R_become 8 = .ok (.goto 4, 3) := by decide +kernel
theorem d_R_become_11 : decode b_R_become 11 = .ok (.lload_n 1, 1) := by decide +kernel
theorem d_R_become_12 : decode b_R_become 12 = .ok (.lstore_n 3, 1) := by decide +kernel
theorem d_R_become_13 : decode b_R_become 13 = .ok (.aload_n 0, 1) := by decide +kernel
theorem d_R_become_14 : decode b_R_become 14 = .ok (.getfield 9, 3) := by decide +kernel
theorem d_R_become_17 : decode b_R_become 17 = .ok (.iconst 0, 1) := by decide +kernel
theorem d_R_become_18 : decode b_R_become 18 = .ok (.lload_n 3, 1) := by decide +kernel
theorem d_R_become_19 : decode b_R_become 19 = .ok (.l2i, 1) := by decide +kernel
theorem d_R_become_20 : decode b_R_become 20 = .ok (.iastore, 1) := by decide +kernel
theorem d_R_become_21 : decode b_R_become 21 = .ok (.aload_n 0, 1) := by decide +kernel
theorem d_R_become_22 : decode b_R_become 22 = .ok (.getfield 9, 3) := by decide +kernel
theorem d_R_become_25 : decode b_R_become 25 = .ok (.iconst 1, 1) := by decide +kernel
theorem d_R_become_26 : decode b_R_become 26 = .ok (.lload_n 3, 1) := by decide +kernel
theorem d_R_become_27 : decode b_R_become 27 = .ok (.bipush 32, 2) := by decide +kernel
theorem d_R_become_29 : decode b_R_become 29 = .ok (.lushr, 1) := by decide +kernel
theorem d_R_become_30 : decode b_R_become 30 = .ok (.l2i, 1) := by decide +kernel
theorem d_R_become_31 : decode b_R_become 31 = .ok (.iastore, 1) := by decide +kernel
theorem d_R_become_32 : decode b_R_become 32 = .ok (.aload_n 0, 1) := by decide +kernel
theorem d_R_become_33 : decode b_R_become 33 = .ok (.iconst 2, 1) := by decide +kernel
theorem d_R_become_34 : decode b_R_become 34 = .ok (.invokevirtual 23, 3) := by decide +kernel
theorem d_R_become_37 : decode b_R_become 37 = .ok (.aload_n 0, 1) := by decide +kernel
theorem d_R_become_38 : decode b_R_become 38 = .ok (.lload_n 1, 1) := by decide +kernel
theorem d_R_become_39 : decode b_R_become 39 = .ok (.lconst 0, 1) := by decide +kernel
theorem d_R_become_40 : decode b_R_become 40 = .ok (.lcmp, 1) := by decide +kernel
theorem d_R_become_41 : decode b_R_become 41 = .ok (.ifCond .ge 7, 3) := by decide +kernel
theorem d_R_become_44 : decode b_R_become 44 = .ok (.iconst 1, 1) := by decide +kernel
theorem d_R_become_45 : decode b_R_become 45 = .ok (.goto 4, 3) := by decide +kernel
theorem d_R_become_48 : decode b_R_become 48 = .ok (.iconst 0, 1) := by decide +kernel
theorem d_R_become_49 : decode b_R_become 49 = .ok (.putfield 19, 3) := by decide +kernel
theorem d_R_become_52 : decode b_R_become 52 = .ok (.return_, 1) := by decide +kernel
theorem d_R_take_0 : decode b_R_take 0 = .ok (.aload_n 1, 1) := by decide +kernel
theorem d_R_take_1 : decode b_R_take 1 = .ok (.getfield 9, 3) := by decide +kernel
theorem d_R_take_4 : decode b_R_take 4 = .ok (.iconst 0, 1) := by decide +kernel
theorem d_R_take_5 : decode b_R_take 5 = .ok (.aload_n 0, 1) := by decide +kernel
theorem d_R_take_6 : decode b_R_take 6 = .ok (.getfield 9, 3) := by decide +kernel
theorem d_R_take_9 : decode b_R_take 9 = .ok (.iconst 0, 1) := by decide +kernel
theorem d_R_take_10 : decode b_R_take 10 = .ok (.aload_n 1, 1) := by decide +kernel
theorem d_R_take_11 : decode b_R_take 11 = .ok (.getfield 15, 3) := by decide +kernel
theorem d_R_take_14 : decode b_R_take 14 = .ok (.invokestatic 27, 3) := by decide +kernel
theorem d_R_take_17 : decode b_R_take 17 = .ok (.aload_n 0, 1) := by decide +kernel
theorem d_R_take_18 : decode b_R_take 18 = .ok (.aload_n 1, 1) := by decide +kernel
theorem d_R_take_19 : decode b_R_take 19 = .ok (.getfield 15, 3) := by decide +kernel
theorem d_R_take_22 : decode b_R_take 22 = .ok (.putfield 15, 3) := by decide +kernel
theorem d_R_take_25 : decode b_R_take 25 = .ok (.aload_n 0, 1) := by decide +kernel
theorem d_R_take_26 : decode b_R_take 26 = .ok (.aload_n 1, 1) := by decide +kernel
theorem d_R_take_27 : decode b_R_take 27 = .ok (.getfield 19, 3) := by decide +kernel
theorem d_R_take_30 : decode b_R_take 30 = .ok (.putfield 19, 3) := by decide +kernel
theorem d_R_take_33 : decode b_R_take 33 = .ok (.return_, 1) := by decide +kernel
theorem d_R_fit_0 : decode b_R_fit 0 = .ok (.iload_n 1, 1) := by decide +kernel
theorem d_R_fit_1 : decode b_R_fit 1 = .ok (.istore_n 2, 1) := by decide +kernel
theorem d_R_fit_2 : decode b_R_fit 2 = .ok (.iload_n 2, 1) := by decide +kernel
theorem d_R_fit_3 : decode b_R_fit 3 = .ok (.ifCond .le 20, 3) := by decide +kernel
theorem d_R_fit_6 : decode b_R_fit 6 = .ok (.aload_n 0, 1) := by decide +kernel
theorem d_R_fit_7 : decode b_R_fit 7 = .ok (.getfield 9, 3) := by decide +kernel
theorem d_R_fit_10 : decode b_R_fit 10 = .ok (.iload_n 2, 1) := by decide +kernel
theorem d_R_fit_11 : decode b_R_fit 11 = .ok (.iconst 1, 1) := by decide +kernel
theorem d_R_fit_12 : decode b_R_fit 12 = .ok (.isub, 1) := by decide +kernel
theorem d_R_fit_13 : decode b_R_fit 13 = .ok (.iaload, 1) := by decide +kernel
theorem d_R_fit_14 : decode b_R_fit 14 = .ok (.ifCond .ne 9, 3) := by decide +kernel
theorem d_R_fit_17 : decode b_R_fit 17 = .ok (.iinc 2 (-1), 3) := by decide +kernel
theorem d_R_fit_20 : decode b_R_fit 20 = .ok (.goto (-18), 3) := by decide +kernel
theorem d_R_fit_23 : decode b_R_fit 23 = .ok (.aload_n 0, 1) := by decide +kernel
theorem d_R_fit_24 : decode b_R_fit 24 = .ok (.iload_n 2, 1) := by decide +kernel
theorem d_R_fit_25 : decode b_R_fit 25 = .ok (.putfield 15, 3) := by decide +kernel
theorem d_R_fit_28 : decode b_R_fit 28 = .ok (.aload_n 0, 1) := by decide +kernel
theorem d_R_fit_29 : decode b_R_fit 29 = .ok (.iconst 0, 1) := by decide +kernel
theorem d_R_fit_30 : decode b_R_fit 30 = .ok (.putfield 19, 3) := by decide +kernel
theorem d_R_fit_33 : decode b_R_fit 33 = .ok (.return_, 1) := by decide +kernel
theorem d_R_clear_0 : decode b_R_clear 0 = .ok (.iload_n 1, 1) := by decide +kernel
theorem d_R_clear_1 : decode b_R_clear 1 = .ok (.istore_n 3, 1) := by decide +kernel
theorem d_R_clear_2 : decode b_R_clear 2 = .ok (.iload_n 3, 1) := by decide +kernel
theorem d_R_clear_3 : decode b_R_clear 3 = .ok (.iload_n 2, 1) := by decide +kernel
theorem d_R_clear_4 : decode b_R_clear 4 = .ok (.if_icmp .ge 16, 3) := by decide +kernel
theorem d_R_clear_7 : decode b_R_clear 7 = .ok (.aload_n 0, 1) := by decide +kernel
theorem d_R_clear_8 : decode b_R_clear 8 = .ok (.getfield 9, 3) := by decide +kernel
theorem d_R_clear_11 : decode b_R_clear 11 = .ok (.iload_n 3, 1) := by decide +kernel
theorem d_R_clear_12 : decode b_R_clear 12 = .ok (.iconst 0, 1) := by decide +kernel
theorem d_R_clear_13 : decode b_R_clear 13 = .ok (.iastore, 1) := by decide +kernel
theorem d_R_clear_14 : decode b_R_clear 14 = .ok (.iinc 3 1, 3) := by decide +kernel
theorem d_R_clear_17 : decode b_R_clear 17 = .ok (.goto (-15), 3) := by decide +kernel
theorem d_R_clear_20 : decode b_R_clear 20 = .ok (.return_, 1) := by decide +kernel
theorem d_R_turnBelowIf_0 : decode b_R_turnBelowIf 0 = .ok (.aload_n 0, 1) := by decide +kernel
theorem d_R_turnBelowIf_1 : decode b_R_turnBelowIf 1 = .ok (.iload_n 1, 1) := by decide +kernel
theorem d_R_turnBelowIf_2 : decode b_R_turnBelowIf 2 = .ok (.ifCond .eq 14, 3) := by decide +kernel
theorem d_R_turnBelowIf_5 : decode b_R_turnBelowIf 5 = .ok (.aload_n 0, 1) := by decide +kernel
theorem d_R_turnBelowIf_6 : decode b_R_turnBelowIf 6 = .ok (.getfield 15, 3) := by decide +kernel
theorem d_R_turnBelowIf_9 : decode b_R_turnBelowIf 9 = .ok (.ifCond .le 7, 3) := by decide +kernel
theorem d_R_turnBelowIf_12 : decode b_R_turnBelowIf 12 = .ok (.iconst 1, 1) := by decide +kernel
theorem d_R_turnBelowIf_13 : decode b_R_turnBelowIf 13 = .ok (.goto 4, 3) := by decide +kernel
theorem d_R_turnBelowIf_16 : decode b_R_turnBelowIf 16 = .ok (.iconst 0, 1) := by decide +kernel
theorem d_R_turnBelowIf_17 : decode b_R_turnBelowIf 17 = .ok (.putfield 19, 3) := by decide +kernel
theorem d_R_turnBelowIf_20 : decode b_R_turnBelowIf 20 = .ok (.return_, 1) := by decide +kernel
theorem d_R_bits_0 : decode b_R_bits 0 = .ok (.aload_n 0, 1) := by decide +kernel
theorem d_R_bits_1 : decode b_R_bits 1 = .ok (.getfield 15, 3) := by decide +kernel
theorem d_R_bits_4 : decode b_R_bits 4 = .ok (.ifCond .ne 7, 3) := by decide +kernel
theorem d_R_bits_7 : decode b_R_bits 7 = .ok (.iconst 0, 1) := by decide +kernel
theorem d_R_bits_8 : decode b_R_bits 8 = .ok (.goto 25, 3) := by decide +kernel
theorem d_R_bits_11 : decode b_R_bits 11 = .ok (.bipush 32, 2) := by decide +kernel
theorem d_R_bits_13 : decode b_R_bits 13 = .ok (.aload_n 0, 1) := by decide +kernel
theorem d_R_bits_14 : decode b_R_bits 14 = .ok (.getfield 15, 3) := by decide +kernel
theorem d_R_bits_17 : decode b_R_bits 17 = .ok (.imul, 1) := by decide +kernel
theorem d_R_bits_18 : decode b_R_bits 18 = .ok (.aload_n 0, 1) := by decide +kernel
theorem d_R_bits_19 : decode b_R_bits 19 = .ok (.getfield 9, 3) := by decide +kernel
theorem d_R_bits_22 : decode b_R_bits 22 = .ok (.aload_n 0, 1) := by decide +kernel
theorem d_R_bits_23 : decode b_R_bits 23 = .ok (.getfield 15, 3) := by decide +kernel
theorem d_R_bits_26 : decode b_R_bits 26 = .ok (.iconst 1, 1) := by decide +kernel
theorem d_R_bits_27 : decode b_R_bits 27 = .ok (.isub, 1) := by decide +kernel
theorem d_R_bits_28 : decode b_R_bits 28 = .ok (.iaload, 1) := by decide +kernel
theorem d_R_bits_29 : decode b_R_bits 29 = .ok (.invokestatic 33, 3) := by decide +kernel
theorem d_R_bits_32 : decode b_R_bits 32 = .ok (.isub, 1) := by decide +kernel
theorem d_R_bits_33 : decode b_R_bits 33 = .ok (.ireturn, 1) := by decide +kernel
theorem d_R_signum_0 : decode b_R_signum 0 = .ok (.aload_n 0, 1) := by decide +kernel
theorem d_R_signum_1 : decode b_R_signum 1 = .ok (.getfield 15, 3) := by decide +kernel
theorem d_R_signum_4 : decode b_R_signum 4 = .ok (.ifCond .ne 5, 3) := by decide +kernel
theorem d_R_signum_7 : decode b_R_signum 7 = .ok (.iconst 0, 1) := by decide +kernel
theorem d_R_signum_8 : decode b_R_signum 8 = .ok (.ireturn, 1) := by decide +kernel
theorem d_R_signum_9 : decode b_R_signum 9 = .ok (.aload_n 0, 1) := by decide +kernel
theorem d_R_signum_10 : decode b_R_signum 10 = .ok (.getfield 19, 3) := by decide +kernel
theorem d_R_signum_13 : decode b_R_signum 13 = .ok (.ifCond .eq 7, 3) := by decide +kernel
theorem d_R_signum_16 : decode b_R_signum 16 = .ok (.iconst (-1), 1) := by decide +kernel
theorem d_R_signum_17 : decode b_R_signum 17 = .ok (.goto 4, 3) := by decide +kernel
theorem d_R_signum_20 : decode b_R_signum 20 = .ok (.iconst 1, 1) := by decide +kernel
theorem d_R_signum_21 : decode b_R_signum 21 = .ok (.ireturn, 1) := by decide +kernel
theorem d_R_isOdd_0 : decode b_R_isOdd 0 = .ok (.aload_n 0, 1) := by decide +kernel
theorem d_R_isOdd_1 : decode b_R_isOdd 1 = .ok (.iconst 0, 1) := by decide +kernel
theorem d_R_isOdd_2 : decode b_R_isOdd 2 = .ok (.invokevirtual 39, 3) := by decide +kernel
theorem d_R_isOdd_5 : decode b_R_isOdd 5 = .ok (.lconst 1, 1) := by decide +kernel
theorem d_R_isOdd_6 : decode b_R_isOdd 6 = .ok (.land, 1) := by decide +kernel
theorem d_R_isOdd_7 : decode b_R_isOdd 7 = .ok (.lconst 1, 1) := by decide +kernel
theorem d_R_isOdd_8 : decode b_R_isOdd 8 = .ok (.lcmp, 1) := by decide +kernel
theorem d_R_isOdd_9 : decode b_R_isOdd 9 = .ok (.ifCond .ne 7, 3) := by decide +kernel
theorem d_R_isOdd_12 : decode b_R_isOdd 12 = .ok (.iconst 1, 1) := by decide +kernel
theorem d_R_isOdd_13 : decode b_R_isOdd 13 = .ok (.goto 4, 3) := by decide +kernel
theorem d_R_isOdd_16 : decode b_R_isOdd 16 = .ok (.iconst 0, 1) := by decide +kernel
theorem d_R_isOdd_17 : decode b_R_isOdd 17 = .ok (.ireturn, 1) := by decide +kernel
theorem d_R_limbAt_0 : decode b_R_limbAt 0 = .ok (.iload_n 1, 1) := by decide +kernel
theorem d_R_limbAt_1 : decode b_R_limbAt 1 = .ok (.aload_n 0, 1) := by decide +kernel
theorem d_R_limbAt_2 : decode b_R_limbAt 2 = .ok (.getfield 15, 3) := by decide +kernel
theorem d_R_limbAt_5 : decode b_R_limbAt 5 = .ok (.if_icmp .ge 17, 3) := by decide +kernel
theorem d_R_limbAt_8 : decode b_R_limbAt 8 = .ok (.aload_n 0, 1) := by decide +kernel
theorem d_R_limbAt_9 : decode b_R_limbAt 9 = .ok (.getfield 9, 3) := by decide +kernel
theorem d_R_limbAt_12 : decode b_R_limbAt 12 = .ok (.iload_n 1, 1) := by decide +kernel
theorem d_R_limbAt_13 : decode b_R_limbAt 13 = .ok (.iaload, 1) := by decide +kernel
theorem d_R_limbAt_14 : decode b_R_limbAt 14 = .ok (.i2l, 1) := by decide +kernel
theorem d_R_limbAt_15 : decode b_R_limbAt 15 = .ok (.ldc2_w 43, 3) := by decide +kernel
theorem d_R_limbAt_18 : decode b_R_limbAt 18 = .ok (.land, 1) := by decide +kernel
theorem d_R_limbAt_19 : decode b_R_limbAt 19 = .ok (.goto 4, 3) := by decide +kernel
theorem d_R_limbAt_22 : decode b_R_limbAt 22 = .ok (.lconst 0, 1) := by decide +kernel
theorem d_R_limbAt_23 : decode b_R_limbAt 23 = .ok (.lreturn, 1) := by decide +kernel
theorem d_R_putBelow_0 : decode b_R_putBelow 0 = .ok (.aload_n 0, 1) := by decide +kernel
theorem d_R_putBelow_1 : decode b_R_putBelow 1 = .ok (.getfield 19, 3) := by decide +kernel
theorem d_R_putBelow_4 : decode b_R_putBelow 4 = .ok (.istore_n 2, 1) := by decide +kernel
theorem d_R_putBelow_5 : decode b_R_putBelow 5 = .ok (.aload_n 0, 1) := by decide +kernel
theorem d_R_putBelow_6 : decode b_R_putBelow 6 = .ok (.getfield 9, 3) := by decide +kernel
theorem d_R_putBelow_9 : decode b_R_putBelow 9 = .ok (.iconst 0, 1) := by decide +kernel
theorem d_R_putBelow_10 : decode b_R_putBelow 10 = .ok (.aload_n 0, 1) := by decide +kernel
theorem d_R_putBelow_11 : decode b_R_putBelow 11 = .ok (.getfield 9, 3) := by decide +kernel
theorem d_R_putBelow_14 : decode b_R_putBelow 14 = .ok (.iconst 1, 1) := by decide +kernel
theorem d_R_putBelow_15 : decode b_R_putBelow 15 = .ok (.aload_n 0, 1) := by decide +kernel
theorem d_R_putBelow_16 : decode b_R_putBelow 16 = .ok (.getfield 15, 3) := by decide +kernel
theorem d_R_putBelow_19 : decode b_R_putBelow 19 = .ok (.invokestatic 27, 3) := by decide +kernel
theorem d_R_putBelow_22 : decode b_R_putBelow 22 = .ok (.aload_n 0, 1) := by decide +kernel
theorem d_R_putBelow_23 : decode b_R_putBelow 23 = .ok (.getfield 9, 3) := by decide +kernel
theorem d_R_putBelow_26 : decode b_R_putBelow 26 = .ok (.iconst 0, 1) := by decide +kernel
theorem d_R_putBelow_27 : decode b_R_putBelow 27 = .ok (.iload_n 1, 1) := by decide +kernel
theorem d_R_putBelow_28 : decode b_R_putBelow 28 = .ok (.iastore, 1) := by decide +kernel
theorem d_R_putBelow_29 : decode b_R_putBelow 29 = .ok (.aload_n 0, 1) := by decide +kernel
theorem d_R_putBelow_30 : decode b_R_putBelow 30 = .ok (.aload_n 0, 1) := by decide +kernel
theorem d_R_putBelow_31 : decode b_R_putBelow 31 = .ok (.getfield 15, 3) := by decide +kernel
theorem d_R_putBelow_34 : decode b_R_putBelow 34 = .ok (.iconst 1, 1) := by decide +kernel
theorem d_R_putBelow_35 : decode b_R_putBelow 35 = .ok (.iadd, 1) := by decide +kernel
theorem d_R_putBelow_36 : decode b_R_putBelow 36 = .ok (.invokevirtual 23, 3) := by decide +kernel
theorem d_R_putBelow_39 : decode b_R_putBelow 39 = .ok (.aload_n 0, 1) := by decide +kernel
theorem d_R_putBelow_40 : decode b_R_putBelow 40 = .ok (.iload_n 2, 1) := by decide +kernel
theorem d_R_putBelow_41 : decode b_R_putBelow 41 = .ok (.invokevirtual 45, 3) := by decide +kernel
theorem d_R_putBelow_44 : decode b_R_putBelow 44 = .ok (.return_, 1) := by decide +kernel
theorem d_R_compareSize_0 : decode b_R_compareSize 0 = .ok (.aload_n 0, 1) := by decide +kernel
theorem d_R_compareSize_1 : decode b_R_compareSize 1 = .ok (.getfield 15, 3) := by decide +kernel
theorem d_R_compareSize_4 : decode b_R_compareSize 4 = .ok (.aload_n 1, 1) := by decide +kernel
theorem d_R_compareSize_5 : decode b_R_compareSize 5 = .ok (.getfield 15, 3) := by decide +kernel
theorem d_R_compareSize_8 : decode b_R_compareSize 8 = .ok (.if_icmp .eq 20, 3) := by decide +kernel
theorem d_R_compareSize_11 : decode b_R_compareSize 11 = .ok (.aload_n 0, 1) := by decide +kernel
theorem d_R_compareSize_12 : decode b_R_compareSize 12 = .ok (.getfield 15, 3) := by decide +kernel
theorem d_R_compareSize_15 : decode b_R_compareSize 15 = .ok (.aload_n 1, 1) := by decide +kernel
theorem d_R_compareSize_16 : decode b_R_compareSize 16 = .ok (.getfield 15, 3) := by decide +kernel
theorem d_R_compareSize_19 : decode b_R_compareSize 19 = .ok (.if_icmp .ge 7, 3) := by decide +kernel
theorem d_R_compareSize_22 : decode b_R_compareSize 22 = .ok (.iconst (-1), 1) := by decide +kernel
theorem d_R_compareSize_23 : decode b_R_compareSize 23 = .ok (.goto 4, 3) := by decide +kernel
theorem d_R_compareSize_26 : decode b_R_compareSize 26 = .ok (.iconst 1, 1) := by decide +kernel
theorem d_R_compareSize_27 : decode b_R_compareSize 27 = .ok (.ireturn, 1) := by decide +kernel
theorem d_R_compareSize_28 : decode b_R_compareSize 28 = .ok (.aload_n 0, 1) := by decide +kernel
theorem d_R_compareSize_29 : decode b_R_compareSize 29 = .ok (.getfield 15, 3) := by decide +kernel
theorem d_R_compareSize_32 : decode b_R_compareSize 32 = .ok (.iconst 1, 1) := by decide +kernel
theorem d_R_compareSize_33 : decode b_R_compareSize 33 = .ok (.isub, 1) := by decide +kernel
theorem d_R_compareSize_34 : decode b_R_compareSize 34 = .ok (.istore_n 2, 1) := by decide +kernel
theorem d_R_compareSize_35 : decode b_R_compareSize 35 = .ok (.iload_n 2, 1) := by decide +kernel
theorem d_R_compareSize_36 : decode b_R_compareSize 36 = .ok (.ifCond .lt 44, 3) := by decide +kernel
theorem d_R_compareSize_39 : decode b_R_compareSize 39 = .ok (.aload_n 0, 1) := by decide +kernel
theorem d_R_compareSize_40 : decode b_R_compareSize 40 = .ok (.getfield 9, 3) := by decide +kernel
theorem d_R_compareSize_43 : decode b_R_compareSize 43 = .ok (.iload_n 2, 1) := by decide +kernel
theorem d_R_compareSize_44 : decode b_R_compareSize 44 = .ok (.iaload, 1) := by decide +kernel
theorem d_R_compareSize_45 : decode b_R_compareSize 45 = .ok (.aload_n 1, 1) := by decide +kernel
theorem d_R_compareSize_46 : decode b_R_compareSize 46 = .ok (.getfield 9, 3) := by decide +kernel
theorem d_R_compareSize_49 : decode b_R_compareSize 49 = .ok (.iload_n 2, 1) := by decide +kernel
theorem d_R_compareSize_50 : decode b_R_compareSize 50 = .ok (.iaload, 1) := by decide +kernel
theorem d_R_compareSize_51 : decode b_R_compareSize 51 = .ok (.if_icmp .eq 23, 3) := by decide +kernel
theorem d_R_compareSize_54 : decode b_R_compareSize 54 = .ok (.aload_n 0, 1) := by decide +kernel
theorem d_R_compareSize_55 : decode b_R_compareSize 55 = .ok (.iload_n 2, 1) := by decide +kernel
theorem d_R_compareSize_56 : decode b_R_compareSize 56 = .ok (.invokevirtual 39, 3) := by decide +kernel
theorem d_R_compareSize_59 : decode b_R_compareSize 59 = .ok (.aload_n 1, 1) := by decide +kernel
theorem d_R_compareSize_60 : decode b_R_compareSize 60 = .ok (.iload_n 2, 1) := by decide +kernel
theorem d_R_compareSize_61 : decode b_R_compareSize 61 = .ok (.invokevirtual 39, 3) := by decide +kernel
theorem d_R_compareSize_64 : decode b_R_compareSize 64 = .ok (.lcmp, 1) := by decide +kernel
theorem d_R_compareSize_65 : decode b_R_compareSize 65 = .ok (.ifCond .ge 7, 3) := by decide +kernel
theorem d_R_compareSize_68 : decode b_R_compareSize 68 = .ok (.iconst (-1), 1) := by decide +kernel
theorem d_R_compareSize_69 : decode b_R_compareSize 69 = .ok (.goto 4, 3) := by decide +kernel
theorem d_R_compareSize_72 : decode b_R_compareSize 72 = .ok (.iconst 1, 1) := by decide +kernel
theorem d_R_compareSize_73 : decode b_R_compareSize 73 = .ok (.ireturn, 1) := by decide +kernel
theorem d_R_compareSize_74 : decode b_R_compareSize 74 = .ok (.iinc 2 (-1), 3) := by decide +kernel
theorem d_R_compareSize_77 : decode b_R_compareSize 77 = .ok (.goto (-42), 3) := by decide +kernel
theorem d_R_compareSize_80 : decode b_R_compareSize 80 = .ok (.iconst 0, 1) := by decide +kernel
theorem d_R_compareSize_81 : decode b_R_compareSize 81 = .ok (.ireturn, 1) := by decide +kernel
theorem d_R_becomeSum_0 : decode b_R_becomeSum 0 = .ok (.aload_n 2, 1) := by decide +kernel
theorem d_R_becomeSum_1 : decode b_R_becomeSum 1 = .ok (.getfield 19, 3) := by decide +kernel
theorem d_R_becomeSum_4 : decode b_R_becomeSum 4 = .ok (.iload_n 3, 1) := by decide +kernel
theorem d_R_becomeSum_5 : decode b_R_becomeSum 5 = .ok (.if_icmp .eq 7, 3) := by decide +kernel
theorem d_R_becomeSum_8 : decode b_R_becomeSum 8 = .ok (.iconst 1, 1) := by decide +kernel
theorem d_R_becomeSum_9 : decode b_R_becomeSum 9 = .ok (.goto 4, 3) := by decide +kernel
theorem d_R_becomeSum_12 : decode b_R_becomeSum 12 = .ok (.iconst 0, 1) := by decide +kernel
theorem d_R_becomeSum_13 : decode b_R_becomeSum 13 = .ok (.istore 4, 2) := by decide +kernel
theorem d_R_becomeSum_15 : decode b_R_becomeSum 15 = .ok (.aload_n 1, 1) := by decide +kernel
theorem d_R_becomeSum_16 : decode b_R_becomeSum 16 = .ok (.getfield 19, 3) := by decide +kernel
theorem d_R_becomeSum_19 : decode b_R_becomeSum 19 = .ok (.iload 4, 2) := by decide +kernel
theorem d_R_becomeSum_21 : decode b_R_becomeSum 21 = .ok (.if_icmp .ne 18, 3) := by decide +kernel
theorem d_R_becomeSum_24 : decode b_R_becomeSum 24 = .ok (.aload_n 0, 1) := by decide +kernel
theorem d_R_becomeSum_25 : decode b_R_becomeSum 25 = .ok (.aload_n 1, 1) := by decide +kernel
theorem d_R_becomeSum_26 : decode b_R_becomeSum 26 = .ok (.aload_n 2, 1) := by decide +kernel
theorem d_R_becomeSum_27 : decode b_R_becomeSum 27 = .ok (.invokevirtual 49, 3) := by decide +kernel
theorem d_R_becomeSum_30 : decode b_R_becomeSum 30 = .ok (.aload_n 0, 1) := by decide +kernel
theorem d_R_becomeSum_31 : decode b_R_becomeSum 31 = .ok (.iload 4, 2) := by decide +kernel
theorem d_R_becomeSum_33 : decode b_R_becomeSum 33 = .ok (.invokevirtual 45, 3) := by decide +kernel
theorem d_R_becomeSum_36 : decode b_R_becomeSum 36 = .ok (.goto 40, 3) := by decide +kernel
theorem d_R_becomeSum_39 : decode b_R_becomeSum 39 = .ok (.aload_n 1, 1) := by decide +kernel
theorem d_R_becomeSum_40 : decode b_R_becomeSum 40 = .ok (.aload_n 2, 1) := by decide +kernel
theorem d_R_becomeSum_41 : decode b_R_becomeSum 41 = .ok (.invokevirtual 53, 3) := by decide +kernel
theorem d_R_becomeSum_44 : decode b_R_becomeSum 44 = .ok (.ifCond .lt 20, 3) := by decide +kernel
theorem d_R_becomeSum_47 : decode b_R_becomeSum 47 = .ok (.aload_n 0, 1) := by decide +kernel
theorem d_R_becomeSum_48 : decode b_R_becomeSum 48 = .ok (.aload_n 1, 1) := by decide +kernel
theorem d_R_becomeSum_49 : decode b_R_becomeSum 49 = .ok (.aload_n 2, 1) := by decide +kernel
theorem d_R_becomeSum_50 : decode b_R_becomeSum 50 = .ok (.invokevirtual 57, 3) := by decide +kernel
theorem d_R_becomeSum_53 : decode b_R_becomeSum 53 = .ok (.aload_n 0, 1) := by decide +kernel
theorem d_R_becomeSum_54 : decode b_R_becomeSum 54 = .ok (.aload_n 1, 1) := by decide +kernel
theorem d_R_becomeSum_55 : decode b_R_becomeSum 55 = .ok (.getfield 19, 3) := by decide +kernel
theorem d_R_becomeSum_58 : decode b_R_becomeSum 58 = .ok (.invokevirtual 45, 3) := by decide +kernel
theorem d_R_becomeSum_61 : decode b_R_becomeSum 61 = .ok (.goto 15, 3) := by decide +kernel
theorem d_R_becomeSum_64 : decode b_R_becomeSum 64 = .ok (.aload_n 0, 1) := by decide +kernel
theorem d_R_becomeSum_65 : decode b_R_becomeSum 65 = .ok (.aload_n 2, 1) := by decide +kernel
theorem d_R_becomeSum_66 : decode b_R_becomeSum 66 = .ok (.aload_n 1, 1) := by decide +kernel
theorem d_R_becomeSum_67 : decode b_R_becomeSum 67 = .ok (.invokevirtual 57, 3) := by decide +kernel
theorem d_R_becomeSum_70 : decode b_R_becomeSum 70 = .ok (.aload_n 0, 1) := by decide +kernel
theorem d_R_becomeSum_71 : decode b_R_becomeSum 71 = .ok (.iload 4, 2) := by decide +kernel
theorem d_R_becomeSum_73 : decode b_R_becomeSum 73 = .ok (.invokevirtual 45, 3) := by decide +kernel
theorem d_R_becomeSum_76 : decode b_R_becomeSum 76 = .ok (.return_, 1) := by decide +kernel
theorem d_R_becomeSizeSum_0 : decode b_R_becomeSizeSum 0 = .ok (.aload_n 1, 1) := by decide +kernel
theorem d_R_becomeSizeSum_1 : decode b_R_becomeSizeSum 1 = .ok (.getfield 15, 3) := by decide +kernel
theorem d_R_becomeSizeSum_4 : decode b_R_becomeSizeSum 4 = .ok (.aload_n 2, 1) := by decide +kernel
theorem d_R_becomeSizeSum_5 : decode b_R_becomeSizeSum 5 = .ok (.getfield 15, 3) := by decide +kernel
theorem d_R_becomeSizeSum_8 : decode b_R_becomeSizeSum 8 = .ok (.invokestatic 60, 3) := by decide +kernel
theorem d_R_becomeSizeSum_11 : decode b_R_becomeSizeSum 11 = .ok (.istore_n 3, 1) := by decide +kernel
theorem d_R_becomeSizeSum_12 : decode b_R_becomeSizeSum 12 = .ok (.lconst 0, 1) := by decide +kernel
theorem d_R_becomeSizeSum_13 : decode b_R_becomeSizeSum 13 = .ok (.lstore 4, 2) := by decide +kernel
theorem d_R_becomeSizeSum_15 : decode b_R_becomeSizeSum 15 = .ok (.iconst 0, 1) := by decide +kernel
theorem d_R_becomeSizeSum_16 : decode b_R_becomeSizeSum 16 = .ok (.istore 6, 2) := by decide +kernel
theorem d_R_becomeSizeSum_18 : decode b_R_becomeSizeSum 18 = .ok (.iload 6, 2) := by decide +kernel
theorem d_R_becomeSizeSum_20 : decode b_R_becomeSizeSum 20 = .ok (.iload_n 3, 1) := by decide +kernel
theorem d_R_becomeSizeSum_21 : decode b_R_becomeSizeSum 21 = .ok (.if_icmp .ge 44, 3) := by decide +kernel
theorem d_R_becomeSizeSum_24 : decode b_R_becomeSizeSum 24 = .ok (.lload 4, 2) := by decide +kernel
theorem d_R_becomeSizeSum_26 : decode b_R_becomeSizeSum 26 = .ok (.aload_n 1, 1) := by decide +kernel
theorem d_R_becomeSizeSum_27 : decode b_R_becomeSizeSum 27 = .ok (.iload 6, 2) := by decide +kernel
theorem d_R_becomeSizeSum_29 : decode b_R_becomeSizeSum 29 = .ok (.invokevirtual 39, 3) := by decide +kernel
theorem d_R_becomeSizeSum_32 : decode b_R_becomeSizeSum 32 = .ok (.aload_n 2, 1) := by decide +kernel
theorem d_R_becomeSizeSum_33 : decode b_R_becomeSizeSum 33 = .ok (.iload 6, 2) := by decide +kernel
theorem d_R_becomeSizeSum_35 : decode b_R_becomeSizeSum 35 = .ok (.invokevirtual 39, 3) := by decide +kernel
theorem d_R_becomeSizeSum_38 : decode b_R_becomeSizeSum 38 = .ok (.ladd, 1) := by decide +kernel
theorem d_R_becomeSizeSum_39 : decode b_R_becomeSizeSum 39 = .ok (.ladd, 1) := by decide +kernel
theorem d_R_becomeSizeSum_40 : decode b_R_becomeSizeSum 40 = .ok (.lstore 4, 2) := by decide +kernel
theorem d_R_becomeSizeSum_42 : decode b_R_becomeSizeSum 42 = .ok (.aload_n 0, 1) := by decide +kernel
theorem d_R_becomeSizeSum_43 : decode b_R_becomeSizeSum 43 = .ok (.getfield 9, 3) := by decide +kernel
theorem d_R_becomeSizeSum_46 : decode b_R_becomeSizeSum 46 = .ok (.iload 6, 2) := by decide +kernel
theorem d_R_becomeSizeSum_48 : decode b_R_becomeSizeSum 48 = .ok (.lload 4, 2) := by decide +kernel
theorem d_R_becomeSizeSum_50 : decode b_R_becomeSizeSum 50 = .ok (.l2i, 1) := by decide +kernel
theorem d_R_becomeSizeSum_51 : decode b_R_becomeSizeSum 51 = .ok (.iastore, 1) := by decide +kernel
theorem d_R_becomeSizeSum_52 : decode b_R_becomeSizeSum 52 = .ok (.lload 4, 2) := by decide +kernel
theorem d_R_becomeSizeSum_54 : decode b_R_becomeSizeSum 54 = .ok (.bipush 32, 2) := by decide +kernel
theorem d_R_becomeSizeSum_56 : decode b_R_becomeSizeSum 56 = .ok (.lushr, 1) := by decide +kernel
theorem d_R_becomeSizeSum_57 : decode b_R_becomeSizeSum 57 = .ok (.lstore 4, 2) := by decide +kernel
theorem d_R_becomeSizeSum_59 : decode b_R_becomeSizeSum 59 = .ok (.iinc 6 1, 3) := by decide +kernel
theorem d_R_becomeSizeSum_62 : decode b_R_becomeSizeSum 62 = .ok (.goto (-44), 3) := by decide +kernel
theorem d_R_becomeSizeSum_65 : decode b_R_becomeSizeSum 65 = .ok (.aload_n 0, 1) := by decide +kernel
theorem d_R_becomeSizeSum_66 : decode b_R_becomeSizeSum 66 = .ok (.getfield 9, 3) := by decide +kernel
theorem d_R_becomeSizeSum_69 : decode b_R_becomeSizeSum 69 = .ok (.iload_n 3, 1) := by decide +kernel
theorem d_R_becomeSizeSum_70 : decode b_R_becomeSizeSum 70 = .ok (.lload 4, 2) := by decide +kernel
theorem d_R_becomeSizeSum_72 : decode b_R_becomeSizeSum 72 = .ok (.l2i, 1) := by decide +kernel
theorem d_R_becomeSizeSum_73 : decode b_R_becomeSizeSum 73 = .ok (.iastore, 1) := by decide +kernel
theorem d_R_becomeSizeSum_74 : decode b_R_becomeSizeSum 74 = .ok (.aload_n 0, 1) := by decide +kernel
theorem d_R_becomeSizeSum_75 : decode b_R_becomeSizeSum 75 = .ok (.iload_n 3, 1) := by decide +kernel
theorem d_R_becomeSizeSum_76 : decode b_R_becomeSizeSum 76 = .ok (.iconst 1, 1) := by decide +kernel
theorem d_R_becomeSizeSum_77 : decode b_R_becomeSizeSum 77 = .ok (.iadd, 1) := by decide +kernel
theorem d_R_becomeSizeSum_78 : decode b_R_becomeSizeSum 78 = .ok (.invokevirtual 23, 3) := by decide +kernel
theorem d_R_becomeSizeSum_81 : decode b_R_becomeSizeSum 81 = .ok (.return_, 1) := by decide +kernel
theorem d_R_becomeSizeDifference_0 : decode b_R_becomeSizeDifference 0 = .ok (.lconst 0, 1) := by decide +kernel
theorem d_R_becomeSizeDifference_1 : decode b_R_becomeSizeDifference 1 = .ok (.lstore_n 3, 1) := by decide +kernel
theorem d_R_becomeSizeDifference_2 : decode b_R_becomeSizeDifference 2 = .ok (.iconst 0, 1) := by decide +kernel
theorem d_R_becomeSizeDifference_3 : decode b_R_becomeSizeDifference 3 = .ok (.istore 5, 2) := by decide +kernel
theorem d_R_becomeSizeDifference_5 : decode b_R_becomeSizeDifference 5 = .ok (.iload 5, 2) := by decide +kernel
theorem d_R_becomeSizeDifference_7 : decode b_R_becomeSizeDifference 7 = .ok (.aload_n 1, 1) := by decide +kernel
theorem d_R_becomeSizeDifference_8 : decode b_R_becomeSizeDifference 8 = .ok (.getfield 15, 3) := by decide +kernel
theorem d_R_becomeSizeDifference_11 : decode b_R_becomeSizeDifference 11 = .ok (.if_icmp .ge 39, 3) := by decide +kernel
theorem d_R_becomeSizeDifference_14 : decode b_R_becomeSizeDifference 14 = .ok (.lload_n 3, 1) := by decide +kernel
theorem d_R_becomeSizeDifference_15 : decode b_R_becomeSizeDifference 15 = .ok (.aload_n 1, 1) := by decide +kernel
theorem d_R_becomeSizeDifference_16 : decode b_R_becomeSizeDifference 16 = .ok (.iload 5, 2) := by decide +kernel
theorem d_R_becomeSizeDifference_18 : decode b_R_becomeSizeDifference 18 = .ok (.invokevirtual 39, 3) := by decide +kernel
theorem d_R_becomeSizeDifference_21 : decode b_R_becomeSizeDifference 21 = .ok (.aload_n 2, 1) := by decide +kernel
theorem d_R_becomeSizeDifference_22 : decode b_R_becomeSizeDifference 22 = .ok (.iload 5, 2) := by decide +kernel
theorem d_R_becomeSizeDifference_24 : decode b_R_becomeSizeDifference 24 = .ok (.invokevirtual 39, 3) := by decide +kernel
theorem d_R_becomeSizeDifference_27 : decode b_R_becomeSizeDifference 27 = .ok (.lsub, 1) := by decide +kernel
theorem d_R_becomeSizeDifference_28 : decode b_R_becomeSizeDifference 28 = .ok (.ladd, 1) := by decide +kernel
theorem d_R_becomeSizeDifference_29 : decode b_R_becomeSizeDifference 29 = .ok (.lstore_n 3, 1) := by decide +kernel
theorem d_R_becomeSizeDifference_30 : decode b_R_becomeSizeDifference 30 = .ok (.aload_n 0, 1) := by decide +kernel
theorem d_R_becomeSizeDifference_31 : decode b_R_becomeSizeDifference 31 = .ok (.getfield 9, 3) := by decide +kernel
theorem d_R_becomeSizeDifference_34 : decode b_R_becomeSizeDifference 34 = .ok (.iload 5, 2) := by decide +kernel
theorem d_R_becomeSizeDifference_36 : decode b_R_becomeSizeDifference 36 = .ok (.lload_n 3, 1) := by decide +kernel
theorem d_R_becomeSizeDifference_37 : decode b_R_becomeSizeDifference 37 = .ok (.l2i, 1) := by decide +kernel
theorem d_R_becomeSizeDifference_38 : decode b_R_becomeSizeDifference 38 = .ok (.iastore, 1) := by decide +kernel
theorem d_R_becomeSizeDifference_39 : decode b_R_becomeSizeDifference 39 = .ok (.lload_n 3, 1) := by decide +kernel
theorem d_R_becomeSizeDifference_40 : decode b_R_becomeSizeDifference 40 = .ok (.bipush 32, 2) := by decide +kernel
theorem d_R_becomeSizeDifference_42 : decode b_R_becomeSizeDifference 42 = .ok (.lshr, 1) := by decide +kernel
theorem d_R_becomeSizeDifference_43 : decode b_R_becomeSizeDifference 43 = .ok (.lstore_n 3, 1) := by decide +kernel
theorem d_R_becomeSizeDifference_44 : decode b_R_becomeSizeDifference 44 = .ok (.iinc 5 1, 3) := by decide +kernel
theorem d_R_becomeSizeDifference_47 : decode b_R_becomeSizeDifference 47 = .ok (.goto (-42), 3) := by decide +kernel
theorem d_R_becomeSizeDifference_50 : decode b_R_becomeSizeDifference 50 = .ok (.aload_n 0, 1) := by decide +kernel
theorem d_R_becomeSizeDifference_51 : decode b_R_becomeSizeDifference 51 = .ok (.aload_n 1, 1) := by decide +kernel
theorem d_R_becomeSizeDifference_52 : decode b_R_becomeSizeDifference 52 = .ok (.getfield 15, 3) := by decide +kernel
theorem d_R_becomeSizeDifference_55 : decode b_R_becomeSizeDifference 55 = .ok (.invokevirtual 23, 3) := by decide +kernel
theorem d_R_becomeSizeDifference_58 : decode b_R_becomeSizeDifference 58 = .ok (.return_, 1) := by decide +kernel
theorem d_R_becomeProduct_0 : decode b_R_becomeProduct 0 = .ok (.aload_n 1, 1) := by decide +kernel
theorem d_R_becomeProduct_1 : decode b_R_becomeProduct 1 = .ok (.getfield 15, 3) := by decide +kernel
theorem d_R_becomeProduct_4 : decode b_R_becomeProduct 4 = .ok (.aload_n 2, 1) := by decide +kernel
theorem d_R_becomeProduct_5 : decode b_R_becomeProduct 5 = .ok (.getfield 15, 3) := by decide +kernel
theorem d_R_becomeProduct_8 : decode b_R_becomeProduct 8 = .ok (.iadd, 1) := by decide +kernel
theorem d_R_becomeProduct_9 : decode b_R_becomeProduct 9 = .ok (.istore_n 3, 1) := by decide +kernel
theorem d_R_becomeProduct_10 : decode b_R_becomeProduct 10 = .ok (.aload_n 0, 1) := by decide +kernel
theorem d_R_becomeProduct_11 : decode b_R_becomeProduct 11 = .ok (.iconst 0, 1) := by decide +kernel
theorem d_R_becomeProduct_12 : decode b_R_becomeProduct 12 = .ok (.iload_n 3, 1) := by decide +kernel
theorem d_R_becomeProduct_13 : decode b_R_becomeProduct 13 = .ok (.invokevirtual 66, 3) := by decide +kernel
theorem d_R_becomeProduct_16 : decode b_R_becomeProduct 16 = .ok (.iconst 0, 1) := by decide +kernel
theorem d_R_becomeProduct_17 : decode b_R_becomeProduct 17 = .ok (.istore 4, 2) := by decide +kernel
theorem d_R_becomeProduct_19 : decode b_R_becomeProduct 19 = .ok (.iload 4, 2) := by decide +kernel
theorem d_R_becomeProduct_21 : decode b_R_becomeProduct 21 = .ok (.aload_n 1, 1) := by decide +kernel
theorem d_R_becomeProduct_22 : decode b_R_becomeProduct 22 = .ok (.getfield 15, 3) := by decide +kernel
theorem d_R_becomeProduct_25 : decode b_R_becomeProduct 25 = .ok (.if_icmp .ge 40, 3) := by decide +kernel
theorem d_R_becomeProduct_28 : decode b_R_becomeProduct 28 = .ok (.aload_n 0, 1) := by decide +kernel
theorem d_R_becomeProduct_29 : decode b_R_becomeProduct 29 = .ok (.getfield 9, 3) := by decide +kernel
theorem d_R_becomeProduct_32 : decode b_R_becomeProduct 32 = .ok (.iload 4, 2) := by decide +kernel
theorem d_R_becomeProduct_34 : decode b_R_becomeProduct 34 = .ok (.aload_n 2, 1) := by decide +kernel
theorem d_R_becomeProduct_35 : decode b_R_becomeProduct 35 = .ok (.getfield 15, 3) := by decide +kernel
theorem d_R_becomeProduct_38 : decode b_R_becomeProduct 38 = .ok (.iadd, 1) := by decide +kernel
theorem d_R_becomeProduct_39 : decode b_R_becomeProduct 39 = .ok (.aload_n 0, 1) := by decide +kernel
theorem d_R_becomeProduct_40 : decode b_R_becomeProduct 40 = .ok (.aload_n 2, 1) := by decide +kernel
theorem d_R_becomeProduct_41 : decode b_R_becomeProduct 41 = .ok (.aload_n 1, 1) := by decide +kernel
theorem d_R_becomeProduct_42 : decode b_R_becomeProduct 42 = .ok (.getfield 9, 3) := by decide +kernel
theorem d_R_becomeProduct_45 : decode b_R_becomeProduct 45 = .ok (.iload 4, 2) := by decide +kernel
theorem d_R_becomeProduct_47 : decode b_R_becomeProduct 47 = .ok (.iaload, 1) := by decide +kernel
theorem d_R_becomeProduct_48 : decode b_R_becomeProduct 48 = .ok (.i2l, 1) := by decide +kernel
theorem d_R_becomeProduct_49 : decode b_R_becomeProduct 49 = .ok (.ldc2_w 43, 3) := by decide +kernel
theorem d_R_becomeProduct_52 : decode b_R_becomeProduct 52 = .ok (.land, 1) := by decide +kernel
theorem d_R_becomeProduct_53 : decode b_R_becomeProduct 53 = .ok (.iload 4, 2) := by decide +kernel
theorem d_R_becomeProduct_55 : decode b_R_becomeProduct 55 = .ok (.invokevirtual 70, 3) := by decide +kernel
theorem d_R_becomeProduct_58 : decode b_R_becomeProduct 58 = .ok (.iastore, 1) := by decide +kernel
theorem d_R_becomeProduct_59 : decode b_R_becomeProduct 59 = .ok (.iinc 4 1, 3) := by decide +kernel
theorem d_R_becomeProduct_62 : decode b_R_becomeProduct 62 = .ok (.goto (-43), 3) := by decide +kernel
theorem d_R_becomeProduct_65 : decode b_R_becomeProduct 65 = .ok (.aload_n 0, 1) := by decide +kernel
theorem d_R_becomeProduct_66 : decode b_R_becomeProduct 66 = .ok (.iload_n 3, 1) := by decide +kernel
theorem d_R_becomeProduct_67 : decode b_R_becomeProduct 67 = .ok (.invokevirtual 23, 3) := by decide +kernel
theorem d_R_becomeProduct_70 : decode b_R_becomeProduct 70 = .ok (.aload_n 0, 1) := by decide +kernel
theorem d_R_becomeProduct_71 : decode b_R_becomeProduct 71 = .ok (.aload_n 1, 1) := by decide +kernel
theorem d_R_becomeProduct_72 : decode b_R_becomeProduct 72 = .ok (.getfield 19, 3) := by decide +kernel
theorem d_R_becomeProduct_75 : decode b_R_becomeProduct 75 = .ok (.aload_n 2, 1) := by decide +kernel
theorem d_R_becomeProduct_76 : decode b_R_becomeProduct 76 = .ok (.getfield 19, 3) := by decide +kernel
theorem d_R_becomeProduct_79 : decode b_R_becomeProduct 79 = .ok (.if_icmp .eq 7, 3) := by decide +kernel
theorem d_R_becomeProduct_82 : decode b_R_becomeProduct 82 = .ok (.iconst 1, 1) := by decide +kernel
theorem d_R_becomeProduct_83 : decode b_R_becomeProduct 83 = .ok (.goto 4, 3) := by decide +kernel
theorem d_R_becomeProduct_86 : decode b_R_becomeProduct 86 = .ok (.iconst 0, 1) := by decide +kernel
theorem d_R_becomeProduct_87 : decode b_R_becomeProduct 87 = .ok (.invokevirtual 45, 3) := by decide +kernel
theorem d_R_becomeProduct_90 : decode b_R_becomeProduct 90 = .ok (.return_, 1) := by decide +kernel
theorem d_R_addMultiple_0 : decode b_R_addMultiple 0 = .ok (.lconst 0, 1) := by decide +kernel
theorem d_R_addMultiple_1 : decode b_R_addMultiple 1 = .ok (.lstore 5, 2) := by decide +kernel
theorem d_R_addMultiple_3 : decode b_R_addMultiple 3 = .ok (.iconst 0, 1) := by decide +kernel
theorem d_R_addMultiple_4 : decode b_R_addMultiple 4 = .ok (.istore 7, 2) := by decide +kernel
theorem d_R_addMultiple_6 : decode b_R_addMultiple 6 = .ok (.iload 7, 2) := by decide +kernel
theorem d_R_addMultiple_8 : decode b_R_addMultiple 8 = .ok (.aload_n 1, 1) := by decide +kernel
theorem d_R_addMultiple_9 : decode b_R_addMultiple 9 = .ok (.getfield 15, 3) := by decide +kernel
theorem d_R_addMultiple_12 : decode b_R_addMultiple 12 = .ok (.if_icmp .ge 64, 3) := by decide +kernel
theorem d_R_addMultiple_15 : decode b_R_addMultiple 15 = .ok (.lload 5, 2) := by decide +kernel
theorem d_R_addMultiple_17 : decode b_R_addMultiple 17 = .ok (.lload_n 2, 1) := by decide +kernel
theorem d_R_addMultiple_18 : decode b_R_addMultiple 18 = .ok (.aload_n 1, 1) := by decide +kernel
theorem d_R_addMultiple_19 : decode b_R_addMultiple 19 = .ok (.getfield 9, 3) := by decide +kernel
theorem d_R_addMultiple_22 : decode b_R_addMultiple 22 = .ok (.iload 7, 2) := by decide +kernel
theorem d_R_addMultiple_24 : decode b_R_addMultiple 24 = .ok (.iaload, 1) := by decide +kernel
theorem d_R_addMultiple_25 : decode b_R_addMultiple 25 = .ok (.i2l, 1) := by decide +kernel
theorem d_R_addMultiple_26 : decode b_R_addMultiple 26 = .ok (.ldc2_w 43, 3) := by decide +kernel
theorem d_R_addMultiple_29 : decode b_R_addMultiple 29 = .ok (.land, 1) := by decide +kernel
theorem d_R_addMultiple_30 : decode b_R_addMultiple 30 = .ok (.lmul, 1) := by decide +kernel
theorem d_R_addMultiple_31 : decode b_R_addMultiple 31 = .ok (.aload_n 0, 1) := by decide +kernel
theorem d_R_addMultiple_32 : decode b_R_addMultiple 32 = .ok (.getfield 9, 3) := by decide +kernel
theorem d_R_addMultiple_35 : decode b_R_addMultiple 35 = .ok (.iload 4, 2) := by decide +kernel
theorem d_R_addMultiple_37 : decode b_R_addMultiple 37 = .ok (.iload 7, 2) := by decide +kernel
theorem d_R_addMultiple_39 : decode b_R_addMultiple 39 = .ok (.iadd, 1) := by decide +kernel
theorem d_R_addMultiple_40 : decode b_R_addMultiple 40 = .ok (.iaload, 1) := by decide +kernel
theorem d_R_addMultiple_41 : decode b_R_addMultiple 41 = .ok (.i2l, 1) := by decide +kernel
theorem d_R_addMultiple_42 : decode b_R_addMultiple 42 = .ok (.ldc2_w 43, 3) := by decide +kernel
theorem d_R_addMultiple_45 : decode b_R_addMultiple 45 = .ok (.land, 1) := by decide +kernel
theorem d_R_addMultiple_46 : decode b_R_addMultiple 46 = .ok (.ladd, 1) := by decide +kernel
theorem d_R_addMultiple_47 : decode b_R_addMultiple 47 = .ok (.ladd, 1) := by decide +kernel
theorem d_R_addMultiple_48 : decode b_R_addMultiple 48 = .ok (.lstore 5, 2) := by decide +kernel
theorem d_R_addMultiple_50 : decode b_R_addMultiple 50 = .ok (.aload_n 0, 1) := by decide +kernel
theorem d_R_addMultiple_51 : decode b_R_addMultiple 51 = .ok (.getfield 9, 3) := by decide +kernel
theorem d_R_addMultiple_54 : decode b_R_addMultiple 54 = .ok (.iload 4, 2) := by decide +kernel
theorem d_R_addMultiple_56 : decode b_R_addMultiple 56 = .ok (.iload 7, 2) := by decide +kernel
theorem d_R_addMultiple_58 : decode b_R_addMultiple 58 = .ok (.iadd, 1) := by decide +kernel
theorem d_R_addMultiple_59 : decode b_R_addMultiple 59 = .ok (.lload 5, 2) := by decide +kernel
theorem d_R_addMultiple_61 : decode b_R_addMultiple 61 = .ok (.l2i, 1) := by decide +kernel
theorem d_R_addMultiple_62 : decode b_R_addMultiple 62 = .ok (.iastore, 1) := by decide +kernel
theorem d_R_addMultiple_63 : decode b_R_addMultiple 63 = .ok (.lload 5, 2) := by decide +kernel
theorem d_R_addMultiple_65 : decode b_R_addMultiple 65 = .ok (.bipush 32, 2) := by decide +kernel
theorem d_R_addMultiple_67 : decode b_R_addMultiple 67 = .ok (.lushr, 1) := by decide +kernel
theorem d_R_addMultiple_68 : decode b_R_addMultiple 68 = .ok (.lstore 5, 2) := by decide +kernel
theorem d_R_addMultiple_70 : decode b_R_addMultiple 70 = .ok (.iinc 7 1, 3) := by decide +kernel
theorem d_R_addMultiple_73 : decode b_R_addMultiple 73 = .ok (.goto (-67), 3) := by decide +kernel
theorem d_R_addMultiple_76 : decode b_R_addMultiple 76 = .ok (.lload 5, 2) := by decide +kernel
theorem d_R_addMultiple_78 : decode b_R_addMultiple 78 = .ok (.l2i, 1) := by decide +kernel
theorem d_R_addMultiple_79 : decode b_R_addMultiple 79 = .ok (.ireturn, 1) := by decide +kernel
theorem d_R_increase_0 : decode b_R_increase 0 = .ok (.iconst 0, 1) := by decide +kernel
theorem d_R_increase_1 : decode b_R_increase 1 = .ok (.istore_n 1, 1) := by decide +kernel
theorem d_R_increase_2 : decode b_R_increase 2 = .ok (.iload_n 1, 1) := by decide +kernel
theorem d_R_increase_3 : decode b_R_increase 3 = .ok (.aload_n 0, 1) := by decide +kernel
theorem d_R_increase_4 : decode b_R_increase 4 = .ok (.getfield 15, 3) := by decide +kernel
theorem d_R_increase_7 : decode b_R_increase 7 = .ok (.if_icmp .ge 26, 3) := by decide +kernel
theorem d_R_increase_10 : decode b_R_increase 10 = .ok (.aload_n 0, 1) := by decide +kernel
theorem d_R_increase_11 : decode b_R_increase 11 = .ok (.getfield 9, 3) := by decide +kernel
theorem d_R_increase_14 : decode b_R_increase 14 = .ok (.iload_n 1, 1) := by decide +kernel
theorem d_R_increase_15 : decode b_R_increase 15 = .ok (.iaload, 1) := by decide +kernel
theorem d_R_increase_16 : decode b_R_increase 16 = .ok (.iconst (-1), 1) := by decide +kernel
theorem d_R_increase_17 : decode b_R_increase 17 = .ok (.if_icmp .ne 16, 3) := by decide +kernel
theorem d_R_increase_20 : decode b_R_increase 20 = .ok (.aload_n 0, 1) := by decide +kernel
theorem d_R_increase_21 : decode b_R_increase 21 = .ok (.getfield 9, 3) := by decide +kernel
theorem d_R_increase_24 : decode b_R_increase 24 = .ok (.iload_n 1, 1) := by decide +kernel
theorem d_R_increase_25 : decode b_R_increase 25 = .ok (.iconst 0, 1) := by decide +kernel
theorem d_R_increase_26 : decode b_R_increase 26 = .ok (.iastore, 1) := by decide +kernel
theorem d_R_increase_27 : decode b_R_increase 27 = .ok (.iinc 1 1, 3) := by decide +kernel
theorem d_R_increase_30 : decode b_R_increase 30 = .ok (.goto (-28), 3) := by decide +kernel
theorem d_R_increase_33 : decode b_R_increase 33 = .ok (.iload_n 1, 1) := by decide +kernel
theorem d_R_increase_34 : decode b_R_increase 34 = .ok (.aload_n 0, 1) := by decide +kernel
theorem d_R_increase_35 : decode b_R_increase 35 = .ok (.getfield 15, 3) := by decide +kernel
theorem d_R_increase_38 : decode b_R_increase 38 = .ok (.if_icmp .ge 16, 3) := by decide +kernel
theorem d_R_increase_41 : decode b_R_increase 41 = .ok (.aload_n 0, 1) := by decide +kernel
theorem d_R_increase_42 : decode b_R_increase 42 = .ok (.getfield 9, 3) := by decide +kernel
theorem d_R_increase_45 : decode b_R_increase 45 = .ok (.iload_n 1, 1) := by decide +kernel
theorem d_R_increase_46 : decode b_R_increase 46 = .ok (.dup2, 1) := by decide +kernel
theorem d_R_increase_47 : decode b_R_increase 47 = .ok (.iaload, 1) := by decide +kernel
theorem d_R_increase_48 : decode b_R_increase 48 = .ok (.iconst 1, 1) := by decide +kernel
theorem d_R_increase_49 : decode b_R_increase 49 = .ok (.iadd, 1) := by decide +kernel
theorem d_R_increase_50 : decode b_R_increase 50 = .ok (.iastore, 1) := by decide +kernel
theorem d_R_increase_51 : decode b_R_increase 51 = .ok (.goto 33, 3) := by decide +kernel
theorem d_R_increase_54 : decode b_R_increase 54 = .ok (.aload_n 0, 1) := by decide +kernel
theorem d_R_increase_55 : decode b_R_increase 55 = .ok (.getfield 15, 3) := by decide +kernel
theorem d_R_increase_58 : decode b_R_increase 58 = .ok (.sipush 632, 3) := by decide +kernel
theorem d_R_increase_61 : decode b_R_increase 61 = .ok (.if_icmp .ge 23, 3) := by decide +kernel
theorem d_R_increase_64 : decode b_R_increase 64 = .ok (.aload_n 0, 1) := by decide +kernel
theorem d_R_increase_65 : decode b_R_increase 65 = .ok (.getfield 9, 3) := by decide +kernel
theorem d_R_increase_68 : decode b_R_increase 68 = .ok (.aload_n 0, 1) := by decide +kernel
theorem d_R_increase_69 : decode b_R_increase 69 = .ok (.getfield 15, 3) := by decide +kernel
theorem d_R_increase_72 : decode b_R_increase 72 = .ok (.iconst 1, 1) := by decide +kernel
theorem d_R_increase_73 : decode b_R_increase 73 = .ok (.iastore, 1) := by decide +kernel
theorem d_R_increase_74 : decode b_R_increase 74 = .ok (.aload_n 0, 1) := by decide +kernel
theorem d_R_increase_75 : decode b_R_increase 75 = .ok (.dup, 1) := by decide +kernel
theorem d_R_increase_76 : decode b_R_increase 76 = .ok (.getfield 15, 3) := by decide +kernel
theorem d_R_increase_79 : decode b_R_increase 79 = .ok (.iconst 1, 1) := by decide +kernel
theorem d_R_increase_80 : decode b_R_increase 80 = .ok (.iadd, 1) := by decide +kernel
theorem d_R_increase_81 : decode b_R_increase 81 = .ok (.putfield 15, 3) := by decide +kernel
theorem d_R_increase_84 : decode b_R_increase 84 = .ok (.return_, 1) := by decide +kernel
theorem d_R_shrink_0 : decode b_R_shrink 0 = .ok (.lconst 0, 1) := by decide +kernel
theorem d_R_shrink_1 : decode b_R_shrink 1 = .ok (.lstore_n 3, 1) := by decide +kernel
theorem d_R_shrink_2 : decode b_R_shrink 2 = .ok (.aload_n 0, 1) := by decide +kernel
theorem d_R_shrink_3 : decode b_R_shrink 3 = .ok (.getfield 15, 3) := by decide +kernel
theorem d_R_shrink_6 : decode b_R_shrink 6 = .ok (.iconst 1, 1) := by decide +kernel
theorem d_R_shrink_7 : decode b_R_shrink 7 = .ok (.isub, 1) := by decide +kernel
theorem d_R_shrink_8 : decode b_R_shrink 8 = .ok (.istore 5, 2) := by decide +kernel
theorem d_R_shrink_10 : decode b_R_shrink 10 = .ok (.iload 5, 2) := by decide +kernel
theorem d_R_shrink_12 : decode b_R_shrink 12 = .ok (.ifCond .lt 54, 3) := by decide +kernel
theorem d_R_shrink_15 : decode b_R_shrink 15 = .ok (.lload_n 3, 1) := by decide +kernel
theorem d_R_shrink_16 : decode b_R_shrink 16 = .ok (.bipush 32, 2) := by decide +kernel
theorem d_R_shrink_18 : decode b_R_shrink 18 = .ok (.lshl, 1) := by decide +kernel
theorem d_R_shrink_19 : decode b_R_shrink 19 = .ok (.aload_n 0, 1) := by decide +kernel
theorem d_R_shrink_20 : decode b_R_shrink 20 = .ok (.getfield 9, 3) := by decide +kernel
theorem d_R_shrink_23 : decode b_R_shrink 23 = .ok (.iload 5, 2) := by decide +kernel
theorem d_R_shrink_25 : decode b_R_shrink 25 = .ok (.iaload, 1) := by decide +kernel
theorem d_R_shrink_26 : decode b_R_shrink 26 = .ok (.i2l, 1) := by decide +kernel
theorem d_R_shrink_27 : decode b_R_shrink 27 = .ok (.ldc2_w 43, 3) := by decide +kernel
theorem d_R_shrink_30 : decode b_R_shrink 30 = .ok (.land, 1) := by decide +kernel
theorem d_R_shrink_31 : decode b_R_shrink 31 = .ok (.lor, 1) := by decide +kernel
theorem d_R_shrink_32 : decode b_R_shrink 32 = .ok (.lstore 6, 2) := by decide +kernel
theorem d_R_shrink_34 : decode b_R_shrink 34 = .ok (.lload 6, 2) := by decide +kernel
theorem d_R_shrink_36 : decode b_R_shrink 36 = .ok (.lload_n 1, 1) := by decide +kernel
theorem d_R_shrink_37 : decode b_R_shrink 37 = .ok (.invokestatic 74, 3) := by decide +kernel
theorem d_R_shrink_40 : decode b_R_shrink 40 = .ok (.lstore 8, 2) := by decide +kernel
theorem d_R_shrink_42 : decode b_R_shrink 42 = .ok (.aload_n 0, 1) := by decide +kernel
theorem d_R_shrink_43 : decode b_R_shrink 43 = .ok (.getfield 9, 3) := by decide +kernel
theorem d_R_shrink_46 : decode b_R_shrink 46 = .ok (.iload 5, 2) := by decide +kernel
theorem d_R_shrink_48 : decode b_R_shrink 48 = .ok (.lload 8, 2) := by decide +kernel
theorem d_R_shrink_50 : decode b_R_shrink 50 = .ok (.l2i, 1) := by decide +kernel
theorem d_R_shrink_51 : decode b_R_shrink 51 = .ok (.iastore, 1) := by decide +kernel
theorem d_R_shrink_52 : decode b_R_shrink 52 = .ok (.lload 6, 2) := by decide +kernel
theorem d_R_shrink_54 : decode b_R_shrink 54 = .ok (.lload 8, 2) := by decide +kernel
theorem d_R_shrink_56 : decode b_R_shrink 56 = .ok (.lload_n 1, 1) := by decide +kernel
theorem d_R_shrink_57 : decode b_R_shrink 57 = .ok (.lmul, 1) := by decide +kernel
theorem d_R_shrink_58 : decode b_R_shrink 58 = .ok (.lsub, 1) := by decide +kernel
theorem d_R_shrink_59 : decode b_R_shrink 59 = .ok (.lstore_n 3, 1) := by decide +kernel
theorem d_R_shrink_60 : decode b_R_shrink 60 = .ok (.iinc 5 (-1), 3) := by decide +kernel
theorem d_R_shrink_63 : decode b_R_shrink 63 = .ok (.goto (-53), 3) := by decide +kernel
theorem d_R_shrink_66 : decode b_R_shrink 66 = .ok (.aload_n 0, 1) := by decide +kernel
theorem d_R_shrink_67 : decode b_R_shrink 67 = .ok (.aload_n 0, 1) := by decide +kernel
theorem d_R_shrink_68 : decode b_R_shrink 68 = .ok (.getfield 15, 3) := by decide +kernel
theorem d_R_shrink_71 : decode b_R_shrink 71 = .ok (.invokevirtual 23, 3) := by decide +kernel
theorem d_R_shrink_74 : decode b_R_shrink 74 = .ok (.lload_n 3, 1) := by decide +kernel
theorem d_R_shrink_75 : decode b_R_shrink 75 = .ok (.lreturn, 1) := by decide +kernel
theorem d_R_shiftUp_0 : decode b_R_shiftUp 0 = .ok (.lconst 0, 1) := by decide +kernel
theorem d_R_shiftUp_1 : decode b_R_shiftUp 1 = .ok (.lstore_n 2, 1) := by decide +kernel
theorem d_R_shiftUp_2 : decode b_R_shiftUp 2 = .ok (.iconst 0, 1) := by decide +kernel
theorem d_R_shiftUp_3 : decode b_R_shiftUp 3 = .ok (.istore 4, 2) := by decide +kernel
theorem d_R_shiftUp_5 : decode b_R_shiftUp 5 = .ok (.iload 4, 2) := by decide +kernel
theorem d_R_shiftUp_7 : decode b_R_shiftUp 7 = .ok (.aload_n 0, 1) := by decide +kernel
theorem d_R_shiftUp_8 : decode b_R_shiftUp 8 = .ok (.getfield 15, 3) := by decide +kernel
theorem d_R_shiftUp_11 : decode b_R_shiftUp 11 = .ok (.if_icmp .ge 43, 3) := by decide +kernel
theorem d_R_shiftUp_14 : decode b_R_shiftUp 14 = .ok (.aload_n 0, 1) := by decide +kernel
theorem d_R_shiftUp_15 : decode b_R_shiftUp 15 = .ok (.getfield 9, 3) := by decide +kernel
theorem d_R_shiftUp_18 : decode b_R_shiftUp 18 = .ok (.iload 4, 2) := by decide +kernel
theorem d_R_shiftUp_20 : decode b_R_shiftUp 20 = .ok (.iaload, 1) := by decide +kernel
theorem d_R_shiftUp_21 : decode b_R_shiftUp 21 = .ok (.i2l, 1) := by decide +kernel
theorem d_R_shiftUp_22 : decode b_R_shiftUp 22 = .ok (.ldc2_w 43, 3) := by decide +kernel
theorem d_R_shiftUp_25 : decode b_R_shiftUp 25 = .ok (.land, 1) := by decide +kernel
theorem d_R_shiftUp_26 : decode b_R_shiftUp 26 = .ok (.iload_n 1, 1) := by decide +kernel
theorem d_R_shiftUp_27 : decode b_R_shiftUp 27 = .ok (.lshl, 1) := by decide +kernel
theorem d_R_shiftUp_28 : decode b_R_shiftUp 28 = .ok (.lload_n 2, 1) := by decide +kernel
theorem d_R_shiftUp_29 : decode b_R_shiftUp 29 = .ok (.lor, 1) := by decide +kernel
theorem d_R_shiftUp_30 : decode b_R_shiftUp 30 = .ok (.lstore 5, 2) := by decide +kernel
theorem d_R_shiftUp_32 : decode b_R_shiftUp 32 = .ok (.aload_n 0, 1) := by decide +kernel
theorem d_R_shiftUp_33 : decode b_R_shiftUp 33 = .ok (.getfield 9, 3) := by decide +kernel
theorem d_R_shiftUp_36 : decode b_R_shiftUp 36 = .ok (.iload 4, 2) := by decide +kernel
theorem d_R_shiftUp_38 : decode b_R_shiftUp 38 = .ok (.lload 5, 2) := by decide +kernel
theorem d_R_shiftUp_40 : decode b_R_shiftUp 40 = .ok (.l2i, 1) := by decide +kernel
theorem d_R_shiftUp_41 : decode b_R_shiftUp 41 = .ok (.iastore, 1) := by decide +kernel
theorem d_R_shiftUp_42 : decode b_R_shiftUp 42 = .ok (.lload 5, 2) := by decide +kernel
theorem d_R_shiftUp_44 : decode b_R_shiftUp 44 = .ok (.bipush 32, 2) := by decide +kernel
theorem d_R_shiftUp_46 : decode b_R_shiftUp 46 = .ok (.lushr, 1) := by decide +kernel
theorem d_R_shiftUp_47 : decode b_R_shiftUp 47 = .ok (.lstore_n 2, 1) := by decide +kernel
theorem d_R_shiftUp_48 : decode b_R_shiftUp 48 = .ok (.iinc 4 1, 3) := by decide +kernel
theorem d_R_shiftUp_51 : decode b_R_shiftUp 51 = .ok (.goto (-46), 3) := by decide +kernel
theorem d_R_shiftUp_54 : decode b_R_shiftUp 54 = .ok (.aload_n 0, 1) := by decide +kernel
theorem d_R_shiftUp_55 : decode b_R_shiftUp 55 = .ok (.getfield 9, 3) := by decide +kernel
theorem d_R_shiftUp_58 : decode b_R_shiftUp 58 = .ok (.aload_n 0, 1) := by decide +kernel
theorem d_R_shiftUp_59 : decode b_R_shiftUp 59 = .ok (.getfield 15, 3) := by decide +kernel
theorem d_R_shiftUp_62 : decode b_R_shiftUp 62 = .ok (.lload_n 2, 1) := by decide +kernel
theorem d_R_shiftUp_63 : decode b_R_shiftUp 63 = .ok (.l2i, 1) := by decide +kernel
theorem d_R_shiftUp_64 : decode b_R_shiftUp 64 = .ok (.iastore, 1) := by decide +kernel
theorem d_R_shiftUp_65 : decode b_R_shiftUp 65 = .ok (.return_, 1) := by decide +kernel
theorem d_R_shiftDown_0 : decode b_R_shiftDown 0 = .ok (.lconst 0, 1) := by decide +kernel
theorem d_R_shiftDown_1 : decode b_R_shiftDown 1 = .ok (.lstore_n 2, 1) := by decide +kernel
theorem d_R_shiftDown_2 : decode b_R_shiftDown 2 = .ok (.aload_n 0, 1) := by decide +kernel
theorem d_R_shiftDown_3 : decode b_R_shiftDown 3 = .ok (.getfield 15, 3) := by decide +kernel
theorem d_R_shiftDown_6 : decode b_R_shiftDown 6 = .ok (.iconst 1, 1) := by decide +kernel
theorem d_R_shiftDown_7 : decode b_R_shiftDown 7 = .ok (.isub, 1) := by decide +kernel
theorem d_R_shiftDown_8 : decode b_R_shiftDown 8 = .ok (.istore 4, 2) := by decide +kernel
theorem d_R_shiftDown_10 : decode b_R_shiftDown 10 = .ok (.iload 4, 2) := by decide +kernel
theorem d_R_shiftDown_12 : decode b_R_shiftDown 12 = .ok (.ifCond .lt 43, 3) := by decide +kernel
theorem d_R_shiftDown_15 : decode b_R_shiftDown 15 = .ok (.aload_n 0, 1) := by decide +kernel
theorem d_R_shiftDown_16 : decode b_R_shiftDown 16 = .ok (.getfield 9, 3) := by decide +kernel
theorem d_R_shiftDown_19 : decode b_R_shiftDown 19 = .ok (.iload 4, 2) := by decide +kernel
theorem d_R_shiftDown_21 : decode b_R_shiftDown 21 = .ok (.iaload, 1) := by decide +kernel
theorem d_R_shiftDown_22 : decode b_R_shiftDown 22 = .ok (.i2l, 1) := by decide +kernel
theorem d_R_shiftDown_23 : decode b_R_shiftDown 23 = .ok (.ldc2_w 43, 3) := by decide +kernel
theorem d_R_shiftDown_26 : decode b_R_shiftDown 26 = .ok (.land, 1) := by decide +kernel
theorem d_R_shiftDown_27 : decode b_R_shiftDown 27 = .ok (.lstore 5, 2) := by decide +kernel
theorem d_R_shiftDown_29 : decode b_R_shiftDown 29 = .ok (.aload_n 0, 1) := by decide +kernel
theorem d_R_shiftDown_30 : decode b_R_shiftDown 30 = .ok (.getfield 9, 3) := by decide +kernel
theorem d_R_shiftDown_33 : decode b_R_shiftDown 33 = .ok (.iload 4, 2) := by decide +kernel
theorem d_R_shiftDown_35 : decode b_R_shiftDown 35 = .ok (.lload_n 2, 1) := by decide +kernel
theorem d_R_shiftDown_36 : decode b_R_shiftDown 36 = .ok (.bipush 32, 2) := by decide +kernel
theorem d_R_shiftDown_38 : decode b_R_shiftDown 38 = .ok (.lshl, 1) := by decide +kernel
theorem d_R_shiftDown_39 : decode b_R_shiftDown 39 = .ok (.lload 5, 2) := by decide +kernel
theorem d_R_shiftDown_41 : decode b_R_shiftDown 41 = .ok (.lor, 1) := by decide +kernel
theorem d_R_shiftDown_42 : decode b_R_shiftDown 42 = .ok (.iload_n 1, 1) := by decide +kernel
theorem d_R_shiftDown_43 : decode b_R_shiftDown 43 = .ok (.lushr, 1) := by decide +kernel
theorem d_R_shiftDown_44 : decode b_R_shiftDown 44 = .ok (.l2i, 1) := by decide +kernel
theorem d_R_shiftDown_45 : decode b_R_shiftDown 45 = .ok (.iastore, 1) := by decide +kernel
theorem d_R_shiftDown_46 : decode b_R_shiftDown 46 = .ok (.lload 5, 2) := by decide +kernel
theorem d_R_shiftDown_48 : decode b_R_shiftDown 48 = .ok (.lstore_n 2, 1) := by decide +kernel
theorem d_R_shiftDown_49 : decode b_R_shiftDown 49 = .ok (.iinc 4 (-1), 3) := by decide +kernel
theorem d_R_shiftDown_52 : decode b_R_shiftDown 52 = .ok (.goto (-42), 3) := by decide +kernel
theorem d_R_shiftDown_55 : decode b_R_shiftDown 55 = .ok (.aload_n 0, 1) := by decide +kernel
theorem d_R_shiftDown_56 : decode b_R_shiftDown 56 = .ok (.aload_n 0, 1) := by decide +kernel
theorem d_R_shiftDown_57 : decode b_R_shiftDown 57 = .ok (.getfield 15, 3) := by decide +kernel
theorem d_R_shiftDown_60 : decode b_R_shiftDown 60 = .ok (.invokevirtual 23, 3) := by decide +kernel
theorem d_R_shiftDown_63 : decode b_R_shiftDown 63 = .ok (.return_, 1) := by decide +kernel
theorem d_R_bitsFrom_0 : decode b_R_bitsFrom 0 = .ok (.iload_n 1, 1) := by decide +kernel
theorem d_R_bitsFrom_1 : decode b_R_bitsFrom 1 = .ok (.bipush 32, 2) := by decide +kernel
theorem d_R_bitsFrom_3 : decode b_R_bitsFrom 3 = .ok (.idiv, 1) := by decide +kernel
theorem d_R_bitsFrom_4 : decode b_R_bitsFrom 4 = .ok (.istore_n 2, 1) := by decide +kernel
theorem d_R_bitsFrom_5 : decode b_R_bitsFrom 5 = .ok (.iload_n 1, 1) := by decide +kernel
theorem d_R_bitsFrom_6 : decode b_R_bitsFrom 6 = .ok (.bipush 32, 2) := by decide +kernel
theorem d_R_bitsFrom_8 : decode b_R_bitsFrom 8 = .ok (.irem, 1) := by decide +kernel
theorem d_R_bitsFrom_9 : decode b_R_bitsFrom 9 = .ok (.istore_n 3, 1) := by decide +kernel
theorem d_R_bitsFrom_10 : decode b_R_bitsFrom 10 = .ok (.aload_n 0, 1) := by decide +kernel
theorem d_R_bitsFrom_11 : decode b_R_bitsFrom 11 = .ok (.iload_n 2, 1) := by decide +kernel
theorem d_R_bitsFrom_12 : decode b_R_bitsFrom 12 = .ok (.invokevirtual 39, 3) := by decide +kernel
theorem d_R_bitsFrom_15 : decode b_R_bitsFrom 15 = .ok (.aload_n 0, 1) := by decide +kernel
theorem d_R_bitsFrom_16 : decode b_R_bitsFrom 16 = .ok (.iload_n 2, 1) := by decide +kernel
theorem d_R_bitsFrom_17 : decode b_R_bitsFrom 17 = .ok (.iconst 1, 1) := by decide +kernel
theorem d_R_bitsFrom_18 : decode b_R_bitsFrom 18 = .ok (.iadd, 1) := by decide +kernel
theorem d_R_bitsFrom_19 : decode b_R_bitsFrom 19 = .ok (.invokevirtual 39, 3) := by decide +kernel
theorem d_R_bitsFrom_22 : decode b_R_bitsFrom 22 = .ok (.bipush 32, 2) := by decide +kernel
theorem d_R_bitsFrom_24 : decode b_R_bitsFrom 24 = .ok (.lshl, 1) := by decide +kernel
theorem d_R_bitsFrom_25 : decode b_R_bitsFrom 25 = .ok (.lor, 1) := by decide +kernel
theorem d_R_bitsFrom_26 : decode b_R_bitsFrom 26 = .ok (.lstore 4, 2) := by decide +kernel
theorem d_R_bitsFrom_28 : decode b_R_bitsFrom 28 = .ok (.iload_n 3, 1) := by decide +kernel
theorem d_R_bitsFrom_29 : decode b_R_bitsFrom 29 = .ok (.ifCond .ne 8, 3) := by decide +kernel
theorem d_R_bitsFrom_32 : decode b_R_bitsFrom 32 = .ok (.lload 4, 2) := by decide +kernel
theorem d_R_bitsFrom_34 : decode b_R_bitsFrom 34 = .ok (.goto 20, 3) := by decide +kernel
theorem d_R_bitsFrom_37 : decode b_R_bitsFrom 37 = .ok (.lload 4, 2) := by decide +kernel
theorem d_R_bitsFrom_39 : decode b_R_bitsFrom 39 = .ok (.iload_n 3, 1) := by decide +kernel
theorem d_R_bitsFrom_40 : decode b_R_bitsFrom 40 = .ok (.lushr, 1) := by decide +kernel
theorem d_R_bitsFrom_41 : decode b_R_bitsFrom 41 = .ok (.aload_n 0, 1) := by decide +kernel
theorem d_R_bitsFrom_42 : decode b_R_bitsFrom 42 = .ok (.iload_n 2, 1) := by decide +kernel
theorem d_R_bitsFrom_43 : decode b_R_bitsFrom 43 = .ok (.iconst 2, 1) := by decide +kernel
theorem d_R_bitsFrom_44 : decode b_R_bitsFrom 44 = .ok (.iadd, 1) := by decide +kernel
theorem d_R_bitsFrom_45 : decode b_R_bitsFrom 45 = .ok (.invokevirtual 39, 3) := by decide +kernel
theorem d_R_bitsFrom_48 : decode b_R_bitsFrom 48 = .ok (.bipush 64, 2) := by decide +kernel
theorem d_R_bitsFrom_50 : decode b_R_bitsFrom 50 = .ok (.iload_n 3, 1) := by decide +kernel
theorem d_R_bitsFrom_51 : decode b_R_bitsFrom 51 = .ok (.isub, 1) := by decide +kernel
theorem d_R_bitsFrom_52 : decode b_R_bitsFrom 52 = .ok (.lshl, 1) := by decide +kernel
theorem d_R_bitsFrom_53 : decode b_R_bitsFrom 53 = .ok (.lor, 1) := by decide +kernel
theorem d_R_bitsFrom_54 : decode b_R_bitsFrom 54 = .ok (.lreturn, 1) := by decide +kernel
