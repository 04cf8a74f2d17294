theorem d_T_init_0 : decode b_T_init 0 = .ok (.aload_n 0, 1) := by decide +kernel
theorem d_T_init_1 : decode b_T_init 1 = .ok (.invokespecial 5, 3) := by decide +kernel
theorem d_T_init_4 : decode b_T_init 4 = .ok (.aload_n 0, 1) := by decide +kernel
theorem d_T_init_5 : decode b_T_init 5 = .ok (.sipush 6031, 3) := by decide +kernel
theorem d_T_init_8 : decode b_T_init 8 = .ok (.newarray .byte, 2) := by decide +kernel
theorem d_T_init_10 : decode b_T_init 10 = .ok (.putfield 11, 3) := by decide +kernel
theorem d_T_init_13 : decode b_T_init 13 = .ok (.aload_n 0, 1) := by decide +kernel
theorem d_T_init_14 : decode b_T_init 14 = .ok (.sipush 6031, 3) := by decide +kernel
theorem d_T_init_17 : decode b_T_init 17 = .ok (.putfield 15, 3) := by decide +kernel
theorem d_T_init_20 : decode b_T_init 20 = .ok (.return_, 1) := by decide +kernel
theorem d_T_write_0 : decode b_T_write 0 = .ok (.aload_n 1, 1) := by decide +kernel
theorem d_T_write_1 : decode b_T_write 1 = .ok (.getfield 19, 3) := by decide +kernel
theorem d_T_write_4 : decode b_T_write 4 = .ok (.istore_n 2, 1) := by decide +kernel
theorem d_T_write_5 : decode b_T_write 5 = .ok (.aload_n 0, 1) := by decide +kernel
theorem d_T_write_6 : decode b_T_write 6 = .ok (.sipush 6031, 3) := by decide +kernel
theorem d_T_write_9 : decode b_T_write 9 = .ok (.putfield 15, 3) := by decide +kernel
theorem d_T_write_12 : decode b_T_write 12 = .ok (.aload_n 1, 1) := by decide +kernel
theorem d_T_write_13 : decode b_T_write 13 = .ok (.getfield 25, 3) := by decide +kernel
theorem d_T_write_16 : decode b_T_write 16 = .ok (.ifCond .ne 9, 3) := by decide +kernel
theorem d_T_write_19 : decode b_T_write 19 = .ok (.aload_n 0, 1) := by decide +kernel
theorem d_T_write_20 : decode b_T_write 20 = .ok (.bipush 48, 2) := by decide +kernel
theorem d_T_write_22 : decode b_T_write 22 = .ok (.invokevirtual 28, 3) := by decide +kernel
theorem d_T_write_25 : decode b_T_write 25 = .ok (.iconst 0, 1) := by decide +kernel
theorem d_T_write_26 : decode b_T_write 26 = .ok (.istore_n 3, 1) := by decide +kernel
theorem d_T_write_27 : decode b_T_write 27 = .ok (.iload_n 3, 1) := by decide +kernel
theorem d_T_write_28 : decode b_T_write 28 = .ok (.sipush 670, 3) := by decide +kernel
theorem d_T_write_31 : decode b_T_write 31 = .ok (.if_icmp .ge 40, 3) := by decide +kernel
theorem d_T_write_34 : decode b_T_write 34 = .ok (.aload_n 1, 1) := by decide +kernel
theorem d_T_write_35 : decode b_T_write 35 = .ok (.getfield 25, 3) := by decide +kernel
theorem d_T_write_38 : decode b_T_write 38 = .ok (.ifCond .le 33, 3) := by decide +kernel
theorem d_T_write_41 : decode b_T_write 41 = .ok (.aload_n 0, 1) := by decide +kernel
theorem d_T_write_42 : decode b_T_write 42 = .ok (.aload_n 1, 1) := by decide +kernel
theorem d_T_write_43 : decode b_T_write 43 = .ok (.ldc2_w 32, 3) := by decide +kernel
theorem d_T_write_46 : decode b_T_write 46 = .ok (.invokevirtual 34, 3) := by decide +kernel
theorem d_T_write_49 : decode b_T_write 49 = .ok (.l2i, 1) := by decide +kernel
theorem d_T_write_50 : decode b_T_write 50 = .ok (.aload_n 1, 1) := by decide +kernel
theorem d_T_write_51 : decode b_T_write 51 = .ok (.getfield 25, 3) := by decide +kernel
theorem d_T_write_54 : decode b_T_write 54 = .ok (.ifCond .le 7, 3) := by decide +kernel
theorem d_T_write_57 : decode b_T_write 57 = .ok (.iconst 1, 1) := by decide +kernel
theorem d_T_write_58 : decode b_T_write 58 = .ok (.goto 4, 3) := by decide +kernel
theorem d_T_write_61 : decode b_T_write 61 = .ok (.iconst 0, 1) := by decide +kernel
theorem d_T_write_62 : decode b_T_write 62 = .ok (.invokevirtual 38, 3) := by decide +kernel
theorem d_T_write_65 : decode b_T_write 65 = .ok (.iinc 3 1, 3) := by decide +kernel
theorem d_T_write_68 : decode b_T_write 68 = .ok (.goto (-41), 3) := by decide +kernel
theorem d_T_write_71 : decode b_T_write 71 = .ok (.iload_n 2, 1) := by decide +kernel
theorem d_T_write_72 : decode b_T_write 72 = .ok (.ifCond .eq 9, 3) := by decide +kernel
theorem d_T_write_75 : decode b_T_write 75 = .ok (.aload_n 0, 1) := by decide +kernel
theorem d_T_write_76 : decode b_T_write 76 = .ok (.bipush 45, 2) := by decide +kernel
theorem d_T_write_78 : decode b_T_write 78 = .ok (.invokevirtual 28, 3) := by decide +kernel
theorem d_T_write_81 : decode b_T_write 81 = .ok (.sipush 6031, 3) := by decide +kernel
theorem d_T_write_84 : decode b_T_write 84 = .ok (.aload_n 0, 1) := by decide +kernel
theorem d_T_write_85 : decode b_T_write 85 = .ok (.getfield 15, 3) := by decide +kernel
theorem d_T_write_88 : decode b_T_write 88 = .ok (.isub, 1) := by decide +kernel
theorem d_T_write_89 : decode b_T_write 89 = .ok (.ireturn, 1) := by decide +kernel
theorem d_T_writeChunk_0 : decode b_T_writeChunk 0 = .ok (.iload_n 1, 1) := by decide +kernel
theorem d_T_writeChunk_1 : decode b_T_writeChunk 1 = .ok (.istore_n 3, 1) := by decide +kernel
theorem d_T_writeChunk_2 : decode b_T_writeChunk 2 = .ok (.iconst 0, 1) := by decide +kernel
theorem d_T_writeChunk_3 : decode b_T_writeChunk 3 = .ok (.istore 4, 2) := by decide +kernel
theorem d_T_writeChunk_5 : decode b_T_writeChunk 5 = .ok (.iload 4, 2) := by decide +kernel
theorem d_T_writeChunk_7 : decode b_T_writeChunk 7 = .ok (.bipush 9, 2) := by decide +kernel
theorem d_T_writeChunk_9 : decode b_T_writeChunk 9 = .ok (.if_icmp .ge 33, 3) := by decide +kernel
theorem d_T_writeChunk_12 : decode b_T_writeChunk 12 = .ok (.iload_n 2, 1) := by decide +kernel
theorem d_T_writeChunk_13 : decode b_T_writeChunk 13 = .ok (.ifCond .ne 7, 3) := by decide +kernel
theorem d_T_writeChunk_16 : decode b_T_writeChunk 16 = .ok (.iload_n 3, 1) := by decide +kernel
theorem d_T_writeChunk_17 : decode b_T_writeChunk 17 = .ok (.ifCond .le 25, 3) := by decide +kernel
theorem d_T_writeChunk_20 : decode b_T_writeChunk 20 = .ok (.aload_n 0, 1) := by decide +kernel
theorem d_T_writeChunk_21 : decode b_T_writeChunk 21 = .ok (.bipush 48, 2) := by decide +kernel
theorem d_T_writeChunk_23 : decode b_T_writeChunk 23 = .ok (.iload_n 3, 1) := by decide +kernel
theorem d_T_writeChunk_24 : decode b_T_writeChunk 24 = .ok (.bipush 10, 2) := by decide +kernel
theorem d_T_writeChunk_26 : decode b_T_writeChunk 26 = .ok (.irem, 1) := by decide +kernel
theorem d_T_writeChunk_27 : decode b_T_writeChunk 27 = .ok (.iadd, 1) := by decide +kernel
theorem d_T_writeChunk_28 : decode b_T_writeChunk 28 = .ok (.invokevirtual 28, 3) := by decide +kernel
theorem d_T_writeChunk_31 : decode b_T_writeChunk 31 = .ok (.iload_n 3, 1) := by decide +kernel
theorem d_T_writeChunk_32 : decode b_T_writeChunk 32 = .ok (.bipush 10, 2) := by decide +kernel
theorem d_T_writeChunk_34 : decode b_T_writeChunk 34 = .ok (.idiv, 1) := by decide +kernel
theorem d_T_writeChunk_35 : decode b_T_writeChunk 35 = .ok (.istore_n 3, 1) := by decide +kernel
theorem d_T_writeChunk_36 : decode b_T_writeChunk 36 = .ok (.iinc 4 1, 3) := by decide +kernel
theorem d_T_writeChunk_39 : decode b_T_writeChunk 39 = .ok (.goto (-34), 3) := by decide +kernel
theorem d_T_writeChunk_42 : decode b_T_writeChunk 42 = .ok (.return_, 1) := by decide +kernel
theorem d_T_putBefore_0 : decode b_T_putBefore 0 = .ok (.aload_n 0, 1) := by decide +kernel
theorem d_T_putBefore_1 : decode b_T_putBefore 1 = .ok (.getfield 15, 3) := by decide +kernel
theorem d_T_putBefore_4 : decode b_T_putBefore 4 = .ok (.ifCond .le 24, 3) := by decide +kernel
theorem d_T_putBefore_7 : decode b_T_putBefore 7 = .ok (.aload_n 0, 1) := by decide +kernel
theorem d_T_putBefore_8 : decode b_T_putBefore 8 = .ok (.dup, 1) := by decide +kernel
theorem d_T_putBefore_9 : decode b_T_putBefore 9 = .ok (.getfield 15, 3) := by decide +kernel
theorem d_T_putBefore_12 : decode b_T_putBefore 12 = .ok (.iconst 1, 1) := by decide +kernel
theorem d_T_putBefore_13 : decode b_T_putBefore 13 = .ok (.isub, 1) := by decide +kernel
theorem d_T_putBefore_14 : decode b_T_putBefore 14 = .ok (.putfield 15, 3) := by decide +kernel
theorem d_T_putBefore_17 : decode b_T_putBefore 17 = .ok (.aload_n 0, 1) := by decide +kernel
theorem d_T_putBefore_18 : decode b_T_putBefore 18 = .ok (.getfield 11, 3) := by decide +kernel
theorem d_T_putBefore_21 : decode b_T_putBefore 21 = .ok (.aload_n 0, 1) := by decide +kernel
theorem d_T_putBefore_22 : decode b_T_putBefore 22 = .ok (.getfield 15, 3) := by decide +kernel
theorem d_T_putBefore_25 : decode b_T_putBefore 25 = .ok (.iload_n 1, 1) := by decide +kernel
theorem d_T_putBefore_26 : decode b_T_putBefore 26 = .ok (.i2b, 1) := by decide +kernel
theorem d_T_putBefore_27 : decode b_T_putBefore 27 = .ok (.bastore, 1) := by decide +kernel
theorem d_T_putBefore_28 : decode b_T_putBefore 28 = .ok (.return_, 1) := by decide +kernel
theorem d_T_at_0 : decode b_T_at 0 = .ok (.iload_n 1, 1) := by decide +kernel
theorem d_T_at_1 : decode b_T_at 1 = .ok (.ifCond .lt 15, 3) := by decide +kernel
theorem d_T_at_4 : decode b_T_at 4 = .ok (.iload_n 1, 1) := by decide +kernel
theorem d_T_at_5 : decode b_T_at 5 = .ok (.sipush 6031, 3) := by decide +kernel
theorem d_T_at_8 : decode b_T_at 8 = .ok (.aload_n 0, 1) := by decide +kernel
theorem d_T_at_9 : decode b_T_at 9 = .ok (.getfield 15, 3) := by decide +kernel
theorem d_T_at_12 : decode b_T_at 12 = .ok (.isub, 1) := by decide +kernel
theorem d_T_at_13 : decode b_T_at 13 = .ok (.if_icmp .lt 7, 3) := by decide +kernel
theorem d_T_at_16 : decode b_T_at 16 = .ok (.iconst (-1), 1) := by decide +kernel
theorem d_T_at_17 : decode b_T_at 17 = .ok (.goto 14, 3) := by decide +kernel
theorem d_T_at_20 : decode b_T_at 20 = .ok (.aload_n 0, 1) := by decide +kernel
theorem d_T_at_21 : decode b_T_at 21 = .ok (.getfield 11, 3) := by decide +kernel
theorem d_T_at_24 : decode b_T_at 24 = .ok (.aload_n 0, 1) := by decide +kernel
theorem d_T_at_25 : decode b_T_at 25 = .ok (.getfield 15, 3) := by decide +kernel
theorem d_T_at_28 : decode b_T_at 28 = .ok (.iload_n 1, 1) := by decide +kernel
theorem d_T_at_29 : decode b_T_at 29 = .ok (.iadd, 1) := by decide +kernel
theorem d_T_at_30 : decode b_T_at 30 = .ok (.baload, 1) := by decide +kernel
theorem d_T_at_31 : decode b_T_at 31 = .ok (.ireturn, 1) := by decide +kernel
