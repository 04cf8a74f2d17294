theorem d_S_init_0 : decode b_S_init 0 = .ok (.aload_n 0, 1) := by decide +kernel
theorem d_S_init_1 : decode b_S_init 1 = .ok (.invokespecial 3, 3) := by decide +kernel
theorem d_S_init_4 : decode b_S_init 4 = .ok (.aload_n 0, 1) := by decide +kernel
theorem d_S_init_5 : decode b_S_init 5 = .ok (.sipush 17500, 3) := by decide +kernel
theorem d_S_init_8 : decode b_S_init 8 = .ok (.newarray .int, 2) := by decide +kernel
theorem d_S_init_10 : decode b_S_init 10 = .ok (.putfield 9, 3) := by decide +kernel
theorem d_S_init_13 : decode b_S_init 13 = .ok (.aload_n 0, 1) := by decide +kernel
theorem d_S_init_14 : decode b_S_init 14 = .ok (.bipush 24, 2) := by decide +kernel
theorem d_S_init_16 : decode b_S_init 16 = .ok (.newarray .int, 2) := by decide +kernel
theorem d_S_init_18 : decode b_S_init 18 = .ok (.putfield 15, 3) := by decide +kernel
theorem d_S_init_21 : decode b_S_init 21 = .ok (.aload_n 0, 1) := by decide +kernel
theorem d_S_init_22 : decode b_S_init 22 = .ok (.bipush 24, 2) := by decide +kernel
theorem d_S_init_24 : decode b_S_init 24 = .ok (.newarray .int, 2) := by decide +kernel
theorem d_S_init_26 : decode b_S_init 26 = .ok (.putfield 18, 3) := by decide +kernel
theorem d_S_init_29 : decode b_S_init 29 = .ok (.aload_n 0, 1) := by decide +kernel
theorem d_S_init_30 : decode b_S_init 30 = .ok (.bipush 24, 2) := by decide +kernel
theorem d_S_init_32 : decode b_S_init 32 = .ok (.newarray .boolean, 2) := by decide +kernel
theorem d_S_init_34 : decode b_S_init 34 = .ok (.putfield 21, 3) := by decide +kernel
theorem d_S_init_37 : decode b_S_init 37 = .ok (.aload_n 0, 1) := by decide +kernel
theorem d_S_init_38 : decode b_S_init 38 = .ok (.iconst 0, 1) := by decide +kernel
theorem d_S_init_39 : decode b_S_init 39 = .ok (.putfield 25, 3) := by decide +kernel
theorem d_S_init_42 : decode b_S_init 42 = .ok (.return_, 1) := by decide +kernel
theorem d_S_read_0 : decode b_S_read 0 = .ok (.aload_n 0, 1) := by decide +kernel
theorem d_S_read_1 : decode b_S_read 1 = .ok (.getfield 9, 3) := by decide +kernel
theorem d_S_read_4 : decode b_S_read 4 = .ok (.aload_n 0, 1) := by decide +kernel
theorem d_S_read_5 : decode b_S_read 5 = .ok (.getfield 15, 3) := by decide +kernel
theorem d_S_read_8 : decode b_S_read 8 = .ok (.iload_n 1, 1) := by decide +kernel
theorem d_S_read_9 : decode b_S_read 9 = .ok (.iaload, 1) := by decide +kernel
theorem d_S_read_10 : decode b_S_read 10 = .ok (.aload_n 2, 1) := by decide +kernel
theorem d_S_read_11 : decode b_S_read 11 = .ok (.getfield 29, 3) := by decide +kernel
theorem d_S_read_14 : decode b_S_read 14 = .ok (.iconst 0, 1) := by decide +kernel
theorem d_S_read_15 : decode b_S_read 15 = .ok (.aload_n 0, 1) := by decide +kernel
theorem d_S_read_16 : decode b_S_read 16 = .ok (.getfield 18, 3) := by decide +kernel
theorem d_S_read_19 : decode b_S_read 19 = .ok (.iload_n 1, 1) := by decide +kernel
theorem d_S_read_20 : decode b_S_read 20 = .ok (.iaload, 1) := by decide +kernel
theorem d_S_read_21 : decode b_S_read 21 = .ok (.invokestatic 34, 3) := by decide +kernel
theorem d_S_read_24 : decode b_S_read 24 = .ok (.aload_n 2, 1) := by decide +kernel
theorem d_S_read_25 : decode b_S_read 25 = .ok (.aload_n 0, 1) := by decide +kernel
theorem d_S_read_26 : decode b_S_read 26 = .ok (.getfield 18, 3) := by decide +kernel
theorem d_S_read_29 : decode b_S_read 29 = .ok (.iload_n 1, 1) := by decide +kernel
theorem d_S_read_30 : decode b_S_read 30 = .ok (.iaload, 1) := by decide +kernel
theorem d_S_read_31 : decode b_S_read 31 = .ok (.putfield 40, 3) := by decide +kernel
theorem d_S_read_34 : decode b_S_read 34 = .ok (.aload_n 2, 1) := by decide +kernel
theorem d_S_read_35 : decode b_S_read 35 = .ok (.aload_n 0, 1) := by decide +kernel
theorem d_S_read_36 : decode b_S_read 36 = .ok (.getfield 21, 3) := by decide +kernel
theorem d_S_read_39 : decode b_S_read 39 = .ok (.iload_n 1, 1) := by decide +kernel
theorem d_S_read_40 : decode b_S_read 40 = .ok (.baload, 1) := by decide +kernel
theorem d_S_read_41 : decode b_S_read 41 = .ok (.putfield 43, 3) := by decide +kernel
theorem d_S_read_44 : decode b_S_read 44 = .ok (.return_, 1) := by decide +kernel
theorem d_S_write_0 : decode b_S_write 0 = .ok (.aload_n 0, 1) := by decide +kernel
theorem d_S_write_1 : decode b_S_write 1 = .ok (.getfield 18, 3) := by decide +kernel
theorem d_S_write_4 : decode b_S_write 4 = .ok (.iload_n 1, 1) := by decide +kernel
theorem d_S_write_5 : decode b_S_write 5 = .ok (.iconst 0, 1) := by decide +kernel
theorem d_S_write_6 : decode b_S_write 6 = .ok (.iastore, 1) := by decide +kernel
theorem d_S_write_7 : decode b_S_write 7 = .ok (.aload_n 2, 1) := by decide +kernel
theorem d_S_write_8 : decode b_S_write 8 = .ok (.getfield 40, 3) := by decide +kernel
theorem d_S_write_11 : decode b_S_write 11 = .ok (.sipush 17500, 3) := by decide +kernel
theorem d_S_write_14 : decode b_S_write 14 = .ok (.aload_n 0, 1) := by decide +kernel
theorem d_S_write_15 : decode b_S_write 15 = .ok (.getfield 25, 3) := by decide +kernel
theorem d_S_write_18 : decode b_S_write 18 = .ok (.isub, 1) := by decide +kernel
theorem d_S_write_19 : decode b_S_write 19 = .ok (.if_icmp .le 7, 3) := by decide +kernel
theorem d_S_write_22 : decode b_S_write 22 = .ok (.aload_n 0, 1) := by decide +kernel
theorem d_S_write_23 : decode b_S_write 23 = .ok (.invokevirtual 47, 3) := by decide +kernel
theorem d_S_write_26 : decode b_S_write 26 = .ok (.aload_n 2, 1) := by decide +kernel
theorem d_S_write_27 : decode b_S_write 27 = .ok (.getfield 29, 3) := by decide +kernel
theorem d_S_write_30 : decode b_S_write 30 = .ok (.iconst 0, 1) := by decide +kernel
theorem d_S_write_31 : decode b_S_write 31 = .ok (.aload_n 0, 1) := by decide +kernel
theorem d_S_write_32 : decode b_S_write 32 = .ok (.getfield 9, 3) := by decide +kernel
theorem d_S_write_35 : decode b_S_write 35 = .ok (.aload_n 0, 1) := by decide +kernel
theorem d_S_write_36 : decode b_S_write 36 = .ok (.getfield 25, 3) := by decide +kernel
theorem d_S_write_39 : decode b_S_write 39 = .ok (.aload_n 2, 1) := by decide +kernel
theorem d_S_write_40 : decode b_S_write 40 = .ok (.getfield 40, 3) := by decide +kernel
theorem d_S_write_43 : decode b_S_write 43 = .ok (.invokestatic 34, 3) := by decide +kernel
theorem d_S_write_46 : decode b_S_write 46 = .ok (.aload_n 0, 1) := by decide +kernel
theorem d_S_write_47 : decode b_S_write 47 = .ok (.getfield 15, 3) := by decide +kernel
theorem d_S_write_50 : decode b_S_write 50 = .ok (.iload_n 1, 1) := by decide +kernel
theorem d_S_write_51 : decode b_S_write 51 = .ok (.aload_n 0, 1) := by decide +kernel
theorem d_S_write_52 : decode b_S_write 52 = .ok (.getfield 25, 3) := by decide +kernel
theorem d_S_write_55 : decode b_S_write 55 = .ok (.iastore, 1) := by decide +kernel
theorem d_S_write_56 : decode b_S_write 56 = .ok (.aload_n 0, 1) := by decide +kernel
theorem d_S_write_57 : decode b_S_write 57 = .ok (.getfield 18, 3) := by decide +kernel
theorem d_S_write_60 : decode b_S_write 60 = .ok (.iload_n 1, 1) := by decide +kernel
theorem d_S_write_61 : decode b_S_write 61 = .ok (.aload_n 2, 1) := by decide +kernel
theorem d_S_write_62 : decode b_S_write 62 = .ok (.getfield 40, 3) := by decide +kernel
theorem d_S_write_65 : decode b_S_write 65 = .ok (.iastore, 1) := by decide +kernel
theorem d_S_write_66 : decode b_S_write 66 = .ok (.aload_n 0, 1) := by decide +kernel
theorem d_S_write_67 : decode b_S_write 67 = .ok (.getfield 21, 3) := by decide +kernel
theorem d_S_write_70 : decode b_S_write 70 = .ok (.iload_n 1, 1) := by decide +kernel
theorem d_S_write_71 : decode b_S_write 71 = .ok (.aload_n 2, 1) := by decide +kernel
theorem d_S_write_72 : decode b_S_write 72 = .ok (.getfield 43, 3) := by decide +kernel
theorem d_S_write_75 : decode b_S_write 75 = .ok (.bastore, 1) := by decide +kernel
theorem d_S_write_76 : decode b_S_write 76 = .ok (.aload_n 0, 1) := by decide +kernel
theorem d_S_write_77 : decode b_S_write 77 = .ok (.dup, 1) := by decide +kernel
theorem d_S_write_78 : decode b_S_write 78 = .ok (.getfield 25, 3) := by decide +kernel
theorem d_S_write_81 : decode b_S_write 81 = .ok (.aload_n 2, 1) := by decide +kernel
theorem d_S_write_82 : decode b_S_write 82 = .ok (.getfield 40, 3) := by decide +kernel
theorem d_S_write_85 : decode b_S_write 85 = .ok (.iadd, 1) := by decide +kernel
theorem d_S_write_86 : decode b_S_write 86 = .ok (.putfield 25, 3) := by decide +kernel
theorem d_S_write_89 : decode b_S_write 89 = .ok (.return_, 1) := by decide +kernel
theorem d_S_exchange_0 : decode b_S_exchange 0 = .ok (.aload_n 0, 1) := by decide +kernel
theorem d_S_exchange_1 : decode b_S_exchange 1 = .ok (.getfield 15, 3) := by decide +kernel
theorem d_S_exchange_4 : decode b_S_exchange 4 = .ok (.iload_n 1, 1) := by decide +kernel
theorem d_S_exchange_5 : decode b_S_exchange 5 = .ok (.iaload, 1) := by decide +kernel
theorem d_S_exchange_6 : decode b_S_exchange 6 = .ok (.istore_n 3, 1) := by decide +kernel
theorem d_S_exchange_7 : decode b_S_exchange 7 = .ok (.aload_n 0, 1) := by decide +kernel
theorem d_S_exchange_8 : decode b_S_exchange 8 = .ok (.getfield 18, 3) := by decide +kernel
theorem d_S_exchange_11 : decode b_S_exchange 11 = .ok (.iload_n 1, 1) := by decide +kernel
theorem d_S_exchange_12 : decode b_S_exchange 12 = .ok (.iaload, 1) := by decide +kernel
theorem d_S_exchange_13 : decode b_S_exchange 13 = .ok (.istore 4, 2) := by decide +kernel
theorem d_S_exchange_15 : decode b_S_exchange 15 = .ok (.aload_n 0, 1) := by decide +kernel
theorem d_S_exchange_16 : decode b_S_exchange 16 = .ok (.getfield 21, 3) := by decide +kernel
theorem d_S_exchange_19 : decode b_S_exchange 19 = .ok (.iload_n 1, 1) := by decide +kernel
theorem d_S_exchange_20 : decode b_S_exchange 20 = .ok (.baload, 1) := by decide +kernel
theorem d_S_exchange_21 : decode b_S_exchange 21 = .ok (.istore 5, 2) := by decide +kernel
theorem d_S_exchange_23 : decode b_S_exchange 23 = .ok (.aload_n 0, 1) := by decide +kernel
theorem d_S_exchange_24 : decode b_S_exchange 24 = .ok (.getfield 15, 3) := by decide +kernel
theorem d_S_exchange_27 : decode b_S_exchange 27 = .ok (.iload_n 1, 1) := by decide +kernel
theorem d_S_exchange_28 : decode b_S_exchange 28 = .ok (.aload_n 0, 1) := by decide +kernel
theorem d_S_exchange_29 : decode b_S_exchange 29 = .ok (.getfield 15, 3) := by decide +kernel
theorem d_S_exchange_32 : decode b_S_exchange 32 = .ok (.iload_n 2, 1) := by decide +kernel
theorem d_S_exchange_33 : decode b_S_exchange 33 = .ok (.iaload, 1) := by decide +kernel
theorem d_S_exchange_34 : decode b_S_exchange 34 = .ok (.iastore, 1) := by decide +kernel
theorem d_S_exchange_35 : decode b_S_exchange 35 = .ok (.aload_n 0, 1) := by decide +kernel
theorem d_S_exchange_36 : decode b_S_exchange 36 = .ok (.getfield 18, 3) := by decide +kernel
theorem d_S_exchange_39 : decode b_S_exchange 39 = .ok (.iload_n 1, 1) := by decide +kernel
theorem d_S_exchange_40 : decode b_S_exchange 40 = .ok (.aload_n 0, 1) := by decide +kernel
theorem d_S_exchange_41 : decode b_S_exchange 41 = .ok (.getfield 18, 3) := by decide +kernel
theorem d_S_exchange_44 : decode b_S_exchange 44 = .ok (.iload_n 2, 1) := by decide +kernel
theorem d_S_exchange_45 : decode b_S_exchange 45 = .ok (.iaload, 1) := by decide +kernel
theorem d_S_exchange_46 : decode b_S_exchange 46 = .ok (.iastore, 1) := by decide +kernel
theorem d_S_exchange_47 : decode b_S_exchange 47 = .ok (.aload_n 0, 1) := by decide +kernel
theorem d_S_exchange_48 : decode b_S_exchange 48 = .ok (.getfield 21, 3) := by decide +kernel
theorem d_S_exchange_51 : decode b_S_exchange 51 = .ok (.iload_n 1, 1) := by decide +kernel
theorem d_S_exchange_52 : decode b_S_exchange 52 = .ok (.aload_n 0, 1) := by decide +kernel
theorem d_S_exchange_53 : decode b_S_exchange 53 = .ok (.getfield 21, 3) := by decide +kernel
theorem d_S_exchange_56 : decode b_S_exchange 56 = .ok (.iload_n 2, 1) := by decide +kernel
theorem d_S_exchange_57 : decode b_S_exchange 57 = .ok (.baload, 1) := by decide +kernel
theorem d_S_exchange_58 : decode b_S_exchange 58 = .ok (.bastore, 1) := by decide +kernel
theorem d_S_exchange_59 : decode b_S_exchange 59 = .ok (.aload_n 0, 1) := by decide +kernel
theorem d_S_exchange_60 : decode b_S_exchange 60 = .ok (.getfield 15, 3) := by decide +kernel
theorem d_S_exchange_63 : decode b_S_exchange 63 = .ok (.iload_n 2, 1) := by decide +kernel
theorem d_S_exchange_64 : decode b_S_exchange 64 = .ok (.iload_n 3, 1) := by decide +kernel
theorem d_S_exchange_65 : decode b_S_exchange 65 = .ok (.iastore, 1) := by decide +kernel
theorem d_S_exchange_66 : decode b_S_exchange 66 = .ok (.aload_n 0, 1) := by decide +kernel
theorem d_S_exchange_67 : decode b_S_exchange 67 = .ok (.getfield 18, 3) := by decide +kernel
theorem d_S_exchange_70 : decode b_S_exchange 70 = .ok (.iload_n 2, 1) := by decide +kernel
theorem d_S_exchange_71 : decode b_S_exchange 71 = .ok (.iload 4, 2) := by decide +kernel
theorem d_S_exchange_73 : decode b_S_exchange 73 = .ok (.iastore, 1) := by decide +kernel
theorem d_S_exchange_74 : decode b_S_exchange 74 = .ok (.aload_n 0, 1) := by decide +kernel
theorem d_S_exchange_75 : decode b_S_exchange 75 = .ok (.getfield 21, 3) := by decide +kernel
theorem d_S_exchange_78 : decode b_S_exchange 78 = .ok (.iload_n 2, 1) := by decide +kernel
theorem d_S_exchange_79 : decode b_S_exchange 79 = .ok (.iload 5, 2) := by decide +kernel
theorem d_S_exchange_81 : decode b_S_exchange 81 = .ok (.bastore, 1) := by decide +kernel
theorem d_S_exchange_82 : decode b_S_exchange 82 = .ok (.return_, 1) := by decide +kernel
theorem d_S_turn_0 : decode b_S_turn 0 = .ok (.aload_n 0, 1) := by decide +kernel
theorem d_S_turn_1 : decode b_S_turn 1 = .ok (.getfield 21, 3) := by decide +kernel
theorem d_S_turn_4 : decode b_S_turn 4 = .ok (.iload_n 1, 1) := by decide +kernel
theorem d_S_turn_5 : decode b_S_turn 5 = .ok (.aload_n 0, 1) := by decide +kernel
theorem d_S_turn_6 : decode b_S_turn 6 = .ok (.getfield 18, 3) := by decide +kernel
theorem d_S_turn_9 : decode b_S_turn 9 = .ok (.iload_n 1, 1) := by decide +kernel
theorem d_S_turn_10 : decode b_S_turn 10 = .ok (.iaload, 1) := by decide +kernel
theorem d_S_turn_11 : decode b_S_turn 11 = .ok (.ifCond .le 16, 3) := by decide +kernel
theorem d_S_turn_14 : decode b_S_turn 14 = .ok (.aload_n 0, 1) := by decide +kernel
theorem d_S_turn_15 : decode b_S_turn 15 = .ok (.getfield 21, 3) := by decide +kernel
theorem d_S_turn_18 : decode b_S_turn 18 = .ok (.iload_n 1, 1) := by decide +kernel
theorem d_S_turn_19 : decode b_S_turn 19 = .ok (.baload, 1) := by decide +kernel
theorem d_S_turn_20 : decode b_S_turn 20 = .ok (.ifCond .ne 7, 3) := by decide +kernel
theorem d_S_turn_23 : decode b_S_turn 23 = .ok (.iconst 1, 1) := by decide +kernel
theorem d_S_turn_24 : decode b_S_turn 24 = .ok (.goto 4, 3) := by decide +kernel
theorem d_S_turn_27 : decode b_S_turn 27 = .ok (.iconst 0, 1) := by decide +kernel
theorem d_S_turn_28 : decode b_S_turn 28 = .ok (.bastore, 1) := by decide +kernel
theorem d_S_turn_29 : decode b_S_turn 29 = .ok (.return_, 1) := by decide +kernel
theorem d_S_pack_0 : decode b_S_pack 0 = .ok (.iconst 0, 1) := by decide +kernel
theorem d_S_pack_1 : decode b_S_pack 1 = .ok (.istore_n 1, 1) := by decide +kernel
theorem d_S_pack_2 : decode b_S_pack 2 = .ok (.iconst 0, 1) := by decide +kernel
theorem d_S_pack_3 : decode b_S_pack 3 = .ok (.istore_n 2, 1) := by decide +kernel
theorem d_S_pack_4 : decode b_S_pack 4 = .ok (.iconst 0, 1) := by decide +kernel
theorem d_S_pack_5 : decode b_S_pack 5 = .ok (.istore_n 3, 1) := by decide +kernel
theorem d_S_pack_6 : decode b_S_pack 6 = .ok (.iload_n 3, 1) := by decide +kernel
theorem d_S_pack_7 : decode b_S_pack 7 = .ok (.bipush 24, 2) := by decide +kernel
theorem d_S_pack_9 : decode b_S_pack 9 = .ok (.if_icmp .ge 84, 3) := by decide +kernel
theorem d_S_pack_12 : decode b_S_pack 12 = .ok (.aload_n 0, 1) := by decide +kernel
theorem d_S_pack_13 : decode b_S_pack 13 = .ok (.iload_n 1, 1) := by decide +kernel
theorem d_S_pack_14 : decode b_S_pack 14 = .ok (.invokevirtual 50, 3) := by decide +kernel
theorem d_S_pack_17 : decode b_S_pack 17 = .ok (.istore 4, 2) := by decide +kernel
theorem d_S_pack_19 : decode b_S_pack 19 = .ok (.iload 4, 2) := by decide +kernel
theorem d_S_pack_21 : decode b_S_pack 21 = .ok (.iconst (-1), 1) := by decide +kernel
theorem d_S_pack_22 : decode b_S_pack 22 = .ok (.if_icmp .ne 6, 3) := by decide +kernel
theorem d_S_pack_25 : decode b_S_pack 25 = .ok (.goto 68, 3) := by decide +kernel
theorem d_S_pack_28 : decode b_S_pack 28 = .ok (.aload_n 0, 1) := by decide +kernel
theorem d_S_pack_29 : decode b_S_pack 29 = .ok (.getfield 15, 3) := by decide +kernel
theorem d_S_pack_32 : decode b_S_pack 32 = .ok (.iload 4, 2) := by decide +kernel
theorem d_S_pack_34 : decode b_S_pack 34 = .ok (.iaload, 1) := by decide +kernel
theorem d_S_pack_35 : decode b_S_pack 35 = .ok (.istore 5, 2) := by decide +kernel
theorem d_S_pack_37 : decode b_S_pack 37 = .ok (.aload_n 0, 1) := by decide +kernel
theorem d_S_pack_38 : decode b_S_pack 38 = .ok (.getfield 9, 3) := by decide +kernel
theorem d_S_pack_41 : decode b_S_pack 41 = .ok (.iload 5, 2) := by decide +kernel
theorem d_S_pack_43 : decode b_S_pack 43 = .ok (.aload_n 0, 1) := by decide +kernel
theorem d_S_pack_44 : decode b_S_pack 44 = .ok (.getfield 9, 3) := by decide +kernel
theorem d_S_pack_47 : decode b_S_pack 47 = .ok (.iload_n 2, 1) := by decide +kernel
theorem d_S_pack_48 : decode b_S_pack 48 = .ok (.aload_n 0, 1) := by decide +kernel
theorem d_S_pack_49 : decode b_S_pack 49 = .ok (.getfield 18, 3) := by decide +kernel
theorem d_S_pack_52 : decode b_S_pack 52 = .ok (.iload 4, 2) := by decide +kernel
theorem d_S_pack_54 : decode b_S_pack 54 = .ok (.iaload, 1) := by decide +kernel
theorem d_S_pack_55 : decode b_S_pack 55 = .ok (.invokestatic 34, 3) := by decide +kernel
theorem d_S_pack_58 : decode b_S_pack 58 = .ok (.aload_n 0, 1) := by decide +kernel
theorem d_S_pack_59 : decode b_S_pack 59 = .ok (.getfield 15, 3) := by decide +kernel
theorem d_S_pack_62 : decode b_S_pack 62 = .ok (.iload 4, 2) := by decide +kernel
theorem d_S_pack_64 : decode b_S_pack 64 = .ok (.iload_n 2, 1) := by decide +kernel
theorem d_S_pack_65 : decode b_S_pack 65 = .ok (.iastore, 1) := by decide +kernel
theorem d_S_pack_66 : decode b_S_pack 66 = .ok (.iload_n 2, 1) := by decide +kernel
theorem d_S_pack_67 : decode b_S_pack 67 = .ok (.aload_n 0, 1) := by decide +kernel
theorem d_S_pack_68 : decode b_S_pack 68 = .ok (.getfield 18, 3) := by decide +kernel
theorem d_S_pack_71 : decode b_S_pack 71 = .ok (.iload 4, 2) := by decide +kernel
theorem d_S_pack_73 : decode b_S_pack 73 = .ok (.iaload, 1) := by decide +kernel
theorem d_S_pack_74 : decode b_S_pack 74 = .ok (.iadd, 1) := by decide +kernel
theorem d_S_pack_75 : decode b_S_pack 75 = .ok (.istore_n 2, 1) := by decide +kernel
theorem d_S_pack_76 : decode b_S_pack 76 = .ok (.iload 5, 2) := by decide +kernel
theorem d_S_pack_78 : decode b_S_pack 78 = .ok (.aload_n 0, 1) := by decide +kernel
theorem d_S_pack_79 : decode b_S_pack 79 = .ok (.getfield 18, 3) := by decide +kernel
theorem d_S_pack_82 : decode b_S_pack 82 = .ok (.iload 4, 2) := by decide +kernel
theorem d_S_pack_84 : decode b_S_pack 84 = .ok (.iaload, 1) := by decide +kernel
theorem d_S_pack_85 : decode b_S_pack 85 = .ok (.iadd, 1) := by decide +kernel
theorem d_S_pack_86 : decode b_S_pack 86 = .ok (.istore_n 1, 1) := by decide +kernel
theorem d_S_pack_87 : decode b_S_pack 87 = .ok (.iinc 3 1, 3) := by decide +kernel
theorem d_S_pack_90 : decode b_S_pack 90 = .ok (.goto (-84), 3) := by decide +kernel
theorem d_S_pack_93 : decode b_S_pack 93 = .ok (.aload_n 0, 1) := by decide +kernel
theorem d_S_pack_94 : decode b_S_pack 94 = .ok (.iload_n 2, 1) := by decide +kernel
theorem d_S_pack_95 : decode b_S_pack 95 = .ok (.putfield 25, 3) := by decide +kernel
theorem d_S_pack_98 : decode b_S_pack 98 = .ok (.return_, 1) := by decide +kernel
theorem d_S_firstFrom_0 : decode b_S_firstFrom 0 = .ok (.iconst (-1), 1) := by decide +kernel
theorem d_S_firstFrom_1 : decode b_S_firstFrom 1 = .ok (.istore_n 2, 1) := by decide +kernel
theorem d_S_firstFrom_2 : decode b_S_firstFrom 2 = .ok (.iconst 0, 1) := by decide +kernel
theorem d_S_firstFrom_3 : decode b_S_firstFrom 3 = .ok (.istore_n 3, 1) := by decide +kernel
theorem d_S_firstFrom_4 : decode b_S_firstFrom 4 = .ok (.iload_n 3, 1) := by decide +kernel
theorem d_S_firstFrom_5 : decode b_S_firstFrom 5 = .ok (.bipush 24, 2) := by decide +kernel
theorem d_S_firstFrom_7 : decode b_S_firstFrom 7 = .ok (.if_icmp .ge 62, 3) := by decide +kernel
theorem d_S_firstFrom_10 : decode b_S_firstFrom 10 = .ok (.aload_n 0, 1) := by decide +kernel
theorem d_S_firstFrom_11 : decode b_S_firstFrom 11 = .ok (.getfield 18, 3) := by decide +kernel
theorem d_S_firstFrom_14 : decode b_S_firstFrom 14 = .ok (.iload_n 3, 1) := by decide +kernel
theorem d_S_firstFrom_15 : decode b_S_firstFrom 15 = .ok (.iaload, 1) := by decide +kernel
theorem d_S_firstFrom_16 : decode b_S_firstFrom 16 = .ok (.ifCond .le 17, 3) := by decide +kernel
theorem d_S_firstFrom_19 : decode b_S_firstFrom 19 = .ok (.aload_n 0, 1) := by decide +kernel
theorem d_S_firstFrom_20 : decode b_S_firstFrom 20 = .ok (.getfield 15, 3) := by decide +kernel
theorem d_S_firstFrom_23 : decode b_S_firstFrom 23 = .ok (.iload_n 3, 1) := by decide +kernel
theorem d_S_firstFrom_24 : decode b_S_firstFrom 24 = .ok (.iaload, 1) := by decide +kernel
theorem d_S_firstFrom_25 : decode b_S_firstFrom 25 = .ok (.iload_n 1, 1) := by decide +kernel
theorem d_S_firstFrom_26 : decode b_S_firstFrom 26 = .ok (.if_icmp .lt 7, 3) := by decide +kernel
theorem d_S_firstFrom_29 : decode b_S_firstFrom 29 = .ok (.iconst 1, 1) := by decide +kernel
theorem d_S_firstFrom_30 : decode b_S_firstFrom 30 = .ok (.goto 4, 3) := by decide +kernel
theorem d_S_firstFrom_33 : decode b_S_firstFrom 33 = .ok (.iconst 0, 1) := by decide +kernel
theorem d_S_firstFrom_34 : decode b_S_firstFrom 34 = .ok (.istore 4, 2) := by decide +kernel
theorem d_S_firstFrom_36 : decode b_S_firstFrom 36 = .ok (.iload 4, 2) := by decide +kernel
theorem d_S_firstFrom_38 : decode b_S_firstFrom 38 = .ok (.ifCond .eq 25, 3) := by decide +kernel
theorem d_S_firstFrom_41 : decode b_S_firstFrom 41 = .ok (.iload_n 2, 1) := by decide +kernel
theorem d_S_firstFrom_42 : decode b_S_firstFrom 42 = .ok (.iconst (-1), 1) := by decide +kernel
theorem d_S_firstFrom_43 : decode b_S_firstFrom 43 = .ok (.if_icmp .eq 18, 3) := by decide +kernel
theorem d_S_firstFrom_46 : decode b_S_firstFrom 46 = .ok (.aload_n 0, 1) := by decide +kernel
theorem d_S_firstFrom_47 : decode b_S_firstFrom 47 = .ok (.getfield 15, 3) := by decide +kernel
theorem d_S_firstFrom_50 : decode b_S_firstFrom 50 = .ok (.iload_n 3, 1) := by decide +kernel
theorem d_S_firstFrom_51 : decode b_S_firstFrom 51 = .ok (.iaload, 1) := by decide +kernel
theorem d_S_firstFrom_52 : decode b_S_firstFrom 52 = .ok (.aload_n 0, 1) := by decide +kernel
theorem d_S_firstFrom_53 : decode b_S_firstFrom 53 = .ok (.getfield 15, 3) := by decide +kernel
theorem d_S_firstFrom_56 : decode b_S_firstFrom 56 = .ok (.iload_n 2, 1) := by decide +kernel
theorem d_S_firstFrom_57 : decode b_S_firstFrom 57 = .ok (.iaload, 1) := by decide +kernel
theorem d_S_firstFrom_58 : decode b_S_firstFrom 58 = .ok (.if_icmp .ge 5, 3) := by decide +kernel
theorem d_S_firstFrom_61 : decode b_S_firstFrom 61 = .ok (.iload_n 3, 1) := by decide +kernel
theorem d_S_firstFrom_62 : decode b_S_firstFrom 62 = .ok (.istore_n 2, 1) := by decide +kernel
theorem d_S_firstFrom_63 : decode b_S_firstFrom 63 = .ok (.iinc 3 1, 3) := by decide +kernel
theorem d_S_firstFrom_66 : decode b_S_firstFrom 66 = .ok (.goto (-62), 3) := by decide +kernel
theorem d_S_firstFrom_69 : decode b_S_firstFrom 69 = .ok (.iload_n 2, 1) := by decide +kernel
theorem d_S_firstFrom_70 : decode b_S_firstFrom 70 = .ok (.ireturn, 1) := by decide +kernel
