theorem d_M_init_0 : decode b_M_init 0 = .ok (.aload_n 0, 1) := by decide +kernel
theorem d_M_init_1 : decode b_M_init 1 = .ok (.invokespecial 1, 3) := by decide +kernel
theorem d_M_init_4 : decode b_M_init 4 = .ok (.aload_n 0, 1) := by decide +kernel
theorem d_M_init_5 : decode b_M_init 5 = .ok (.sipush 22400, 3) := by decide +kernel
theorem d_M_init_8 : decode b_M_init 8 = .ok (.newarray .int, 2) := by decide +kernel
theorem d_M_init_10 : decode b_M_init 10 = .ok (.putfield 7, 3) := by decide +kernel
theorem d_M_init_13 : decode b_M_init 13 = .ok (.aload_n 0, 1) := by decide +kernel
theorem d_M_init_14 : decode b_M_init 14 = .ok (.bipush 7, 2) := by decide +kernel
theorem d_M_init_16 : decode b_M_init 16 = .ok (.newarray .int, 2) := by decide +kernel
theorem d_M_init_18 : decode b_M_init 18 = .ok (.putfield 13, 3) := by decide +kernel
theorem d_M_init_21 : decode b_M_init 21 = .ok (.aload_n 0, 1) := by decide +kernel
theorem d_M_init_22 : decode b_M_init 22 = .ok (.ldc 16, 2) := by decide +kernel
theorem d_M_init_24 : decode b_M_init 24 = .ok (.newarray .int, 2) := by decide +kernel
theorem d_M_init_26 : decode b_M_init 26 = .ok (.putfield 17, 3) := by decide +kernel
theorem d_M_init_29 : decode b_M_init 29 = .ok (.aload_n 0, 1) := by decide +kernel
theorem d_M_init_30 : decode b_M_init 30 = .ok (.bipush 24, 2) := by decide +kernel
theorem d_M_init_32 : decode b_M_init 32 = .ok (.newarray .int, 2) := by decide +kernel
theorem d_M_init_34 : decode b_M_init 34 = .ok (.putfield 20, 3) := by decide +kernel
theorem d_M_init_37 : decode b_M_init 37 = .ok (.aload_n 0, 1) := by decide +kernel
theorem d_M_init_38 : decode b_M_init 38 = .ok (.bipush 24, 2) := by decide +kernel
theorem d_M_init_40 : decode b_M_init 40 = .ok (.newarray .int, 2) := by decide +kernel
theorem d_M_init_42 : decode b_M_init 42 = .ok (.putfield 23, 3) := by decide +kernel
theorem d_M_init_45 : decode b_M_init 45 = .ok (.aload_n 0, 1) := by decide +kernel
theorem d_M_init_46 : decode b_M_init 46 = .ok (.sipush 2700, 3) := by decide +kernel
theorem d_M_init_49 : decode b_M_init 49 = .ok (.newarray .int, 2) := by decide +kernel
theorem d_M_init_51 : decode b_M_init 51 = .ok (.putfield 26, 3) := by decide +kernel
theorem d_M_init_54 : decode b_M_init 54 = .ok (.aload_n 0, 1) := by decide +kernel
theorem d_M_init_55 : decode b_M_init 55 = .ok (.sipush 6100, 3) := by decide +kernel
theorem d_M_init_58 : decode b_M_init 58 = .ok (.newarray .int, 2) := by decide +kernel
theorem d_M_init_60 : decode b_M_init 60 = .ok (.putfield 29, 3) := by decide +kernel
theorem d_M_init_63 : decode b_M_init 63 = .ok (.return_, 1) := by decide +kernel
theorem d_M_thrown_0 : decode b_M_thrown 0 = .ok (.aload_n 0, 1) := by decide +kernel
theorem d_M_thrown_1 : decode b_M_thrown 1 = .ok (.getfield 32, 3) := by decide +kernel
theorem d_M_thrown_4 : decode b_M_thrown 4 = .ok (.ireturn, 1) := by decide +kernel
theorem d_M_refuses_0 : decode b_M_refuses 0 = .ok (.aload_n 0, 1) := by decide +kernel
theorem d_M_refuses_1 : decode b_M_refuses 1 = .ok (.iload_n 1, 1) := by decide +kernel
theorem d_M_refuses_2 : decode b_M_refuses 2 = .ok (.putfield 32, 3) := by decide +kernel
theorem d_M_refuses_5 : decode b_M_refuses 5 = .ok (.iload_n 1, 1) := by decide +kernel
theorem d_M_refuses_6 : decode b_M_refuses 6 = .ok (.ifCond .le 7, 3) := by decide +kernel
theorem d_M_refuses_9 : decode b_M_refuses 9 = .ok (.iconst 1, 1) := by decide +kernel
theorem d_M_refuses_10 : decode b_M_refuses 10 = .ok (.goto 4, 3) := by decide +kernel
theorem d_M_refuses_13 : decode b_M_refuses 13 = .ok (.iconst 0, 1) := by decide +kernel
theorem d_M_refuses_14 : decode b_M_refuses 14 = .ok (.ireturn, 1) := by decide +kernel
theorem d_M_isRegister_0 : decode b_M_isRegister 0 = .ok (.iload_n 0, 1) := by decide +kernel
theorem d_M_isRegister_1 : decode b_M_isRegister 1 = .ok (.ifCond .lt 13, 3) := by decide +kernel
theorem d_M_isRegister_4 : decode b_M_isRegister 4 = .ok (.iload_n 0, 1) := by decide +kernel
theorem d_M_isRegister_5 : decode b_M_isRegister 5 = .ok (.bipush 24, 2) := by decide +kernel
theorem d_M_isRegister_7 : decode b_M_isRegister 7 = .ok (.if_icmp .ge 7, 3) := by decide +kernel
theorem d_M_isRegister_10 : decode b_M_isRegister 10 = .ok (.iconst 1, 1) := by decide +kernel
theorem d_M_isRegister_11 : decode b_M_isRegister 11 = .ok (.goto 4, 3) := by decide +kernel
theorem d_M_isRegister_14 : decode b_M_isRegister 14 = .ok (.iconst 0, 1) := by decide +kernel
theorem d_M_isRegister_15 : decode b_M_isRegister 15 = .ok (.ireturn, 1) := by decide +kernel
theorem d_M_are_0 : decode b_M_are 0 = .ok (.iload_n 0, 1) := by decide +kernel
theorem d_M_are_1 : decode b_M_are 1 = .ok (.invokestatic 36, 3) := by decide +kernel
theorem d_M_are_4 : decode b_M_are 4 = .ok (.ifCond .eq 21, 3) := by decide +kernel
theorem d_M_are_7 : decode b_M_are 7 = .ok (.iload_n 1, 1) := by decide +kernel
theorem d_M_are_8 : decode b_M_are 8 = .ok (.invokestatic 36, 3) := by decide +kernel
theorem d_M_are_11 : decode b_M_are 11 = .ok (.ifCond .eq 14, 3) := by decide +kernel
theorem d_M_are_14 : decode b_M_are 14 = .ok (.iload_n 2, 1) := by decide +kernel
theorem d_M_are_15 : decode b_M_are 15 = .ok (.invokestatic 36, 3) := by decide +kernel
theorem d_M_are_18 : decode b_M_are 18 = .ok (.ifCond .eq 7, 3) := by decide +kernel
theorem d_M_are_21 : decode b_M_are 21 = .ok (.iconst 1, 1) := by decide +kernel
theorem d_M_are_22 : decode b_M_are 22 = .ok (.goto 4, 3) := by decide +kernel
theorem d_M_are_25 : decode b_M_are 25 = .ok (.iconst 0, 1) := by decide +kernel
theorem d_M_are_26 : decode b_M_are 26 = .ok (.ireturn, 1) := by decide +kernel
theorem d_M_trim_0 : decode b_M_trim 0 = .ok (.iload_n 2, 1) := by decide +kernel
theorem d_M_trim_1 : decode b_M_trim 1 = .ok (.istore_n 3, 1) := by decide +kernel
theorem d_M_trim_2 : decode b_M_trim 2 = .ok (.iload_n 3, 1) := by decide +kernel
theorem d_M_trim_3 : decode b_M_trim 3 = .ok (.ifCond .le 26, 3) := by decide +kernel
theorem d_M_trim_6 : decode b_M_trim 6 = .ok (.aload_n 0, 1) := by decide +kernel
theorem d_M_trim_7 : decode b_M_trim 7 = .ok (.getfield 7, 3) := by decide +kernel
theorem d_M_trim_10 : decode b_M_trim 10 = .ok (.sipush 3200, 3) := by decide +kernel
theorem d_M_trim_13 : decode b_M_trim 13 = .ok (.iload_n 1, 1) := by decide +kernel
theorem d_M_trim_14 : decode b_M_trim 14 = .ok (.imul, 1) := by decide +kernel
theorem d_M_trim_15 : decode b_M_trim 15 = .ok (.iload_n 3, 1) := by decide +kernel
theorem d_M_trim_16 : decode b_M_trim 16 = .ok (.iadd, 1) := by decide +kernel
theorem d_M_trim_17 : decode b_M_trim 17 = .ok (.iconst 1, 1) := by decide +kernel
theorem d_M_trim_18 : decode b_M_trim 18 = .ok (.isub, 1) := by decide +kernel
theorem d_M_trim_19 : decode b_M_trim 19 = .ok (.iaload, 1) := by decide +kernel
theorem d_M_trim_20 : decode b_M_trim 20 = .ok (.ifCond .ne 9, 3) := by decide +kernel
theorem d_M_trim_23 : decode b_M_trim 23 = .ok (.iinc 3 (-1), 3) := by decide +kernel
theorem d_M_trim_26 : decode b_M_trim 26 = .ok (.goto (-24), 3) := by decide +kernel
theorem d_M_trim_29 : decode b_M_trim 29 = .ok (.aload_n 0, 1) := by decide +kernel
theorem d_M_trim_30 : decode b_M_trim 30 = .ok (.getfield 13, 3) := by decide +kernel
theorem d_M_trim_33 : decode b_M_trim 33 = .ok (.iload_n 1, 1) := by decide +kernel
theorem d_M_trim_34 : decode b_M_trim 34 = .ok (.iload_n 3, 1) := by decide +kernel
theorem d_M_trim_35 : decode b_M_trim 35 = .ok (.iastore, 1) := by decide +kernel
theorem d_M_trim_36 : decode b_M_trim 36 = .ok (.return_, 1) := by decide +kernel
theorem d_M_setLong_0 : decode b_M_setLong 0 = .ok (.lload_n 2, 1) := by decide +kernel
theorem d_M_setLong_1 : decode b_M_setLong 1 = .ok (.lstore 4, 2) := by decide +kernel
theorem d_M_setLong_3 : decode b_M_setLong 3 = .ok (.iconst 0, 1) := by decide +kernel
theorem d_M_setLong_4 : decode b_M_setLong 4 = .ok (.istore 6, 2) := by decide +kernel
theorem d_M_setLong_6 : decode b_M_setLong 6 = .ok (.lload 4, 2) := by decide +kernel
theorem d_M_setLong_8 : decode b_M_setLong 8 = .ok (.lconst 0, 1) := by decide +kernel
theorem d_M_setLong_9 : decode b_M_setLong 9 = .ok (.lcmp, 1) := by decide +kernel
theorem d_M_setLong_10 : decode b_M_setLong 10 = .ok (.ifCond .eq 52, 3) := by decide +kernel
theorem d_M_setLong_13 : decode b_M_setLong 13 = .ok (.lload 4, 2) := by decide +kernel
theorem d_M_setLong_15 : decode b_M_setLong 15 = .ok (.ldc2_w 40, 3) := by decide +kernel
theorem d_M_setLong_18 : decode b_M_setLong 18 = .ok (.lrem, 1) := by decide +kernel
theorem d_M_setLong_19 : decode b_M_setLong 19 = .ok (.l2i, 1) := by decide +kernel
theorem d_M_setLong_20 : decode b_M_setLong 20 = .ok (.istore 7, 2) := by decide +kernel
theorem d_M_setLong_22 : decode b_M_setLong 22 = .ok (.aload_n 0, 1) := by decide +kernel
theorem d_M_setLong_23 : decode b_M_setLong 23 = .ok (.getfield 7, 3) := by decide +kernel
theorem d_M_setLong_26 : decode b_M_setLong 26 = .ok (.sipush 3200, 3) := by decide +kernel
theorem d_M_setLong_29 : decode b_M_setLong 29 = .ok (.iload_n 1, 1) := by decide +kernel
theorem d_M_setLong_30 : decode b_M_setLong 30 = .ok (.imul, 1) := by decide +kernel
theorem d_M_setLong_31 : decode b_M_setLong 31 = .ok (.iload 6, 2) := by decide +kernel
theorem d_M_setLong_33 : decode b_M_setLong 33 = .ok (.iadd, 1) := by decide +kernel
theorem d_M_setLong_34 : decode b_M_setLong 34 = .ok (.iload 7, 2) := by decide +kernel
theorem d_M_setLong_36 : decode b_M_setLong 36 = .ok (.ifCond .ge 9, 3) := by decide +kernel
theorem d_M_setLong_39 : decode b_M_setLong 39 = .ok (.iload 7, 2) := by decide +kernel
theorem d_M_setLong_41 : decode b_M_setLong 41 = .ok (.ineg, 1) := by decide +kernel
theorem d_M_setLong_42 : decode b_M_setLong 42 = .ok (.goto 5, 3) := by decide +kernel
theorem d_M_setLong_45 : decode b_M_setLong 45 = .ok (.iload 7, 2) := by decide +kernel
theorem d_M_setLong_47 : decode b_M_setLong 47 = .ok (.iastore, 1) := by decide +kernel
theorem d_M_setLong_48 : decode b_M_setLong 48 = .ok (.lload 4, 2) := by decide +kernel
theorem d_M_setLong_50 : decode b_M_setLong 50 = .ok (.ldc2_w 40, 3) := by decide +kernel
theorem d_M_setLong_53 : decode b_M_setLong 53 = .ok (.ldiv, 1) := by decide +kernel
theorem d_M_setLong_54 : decode b_M_setLong 54 = .ok (.lstore 4, 2) := by decide +kernel
theorem d_M_setLong_56 : decode b_M_setLong 56 = .ok (.iinc 6 1, 3) := by decide +kernel
theorem d_M_setLong_59 : decode b_M_setLong 59 = .ok (.goto (-53), 3) := by decide +kernel
theorem d_M_setLong_62 : decode b_M_setLong 62 = .ok (.aload_n 0, 1) := by decide +kernel
theorem d_M_setLong_63 : decode b_M_setLong 63 = .ok (.getfield 13, 3) := by decide +kernel
theorem d_M_setLong_66 : decode b_M_setLong 66 = .ok (.iload_n 1, 1) := by decide +kernel
theorem d_M_setLong_67 : decode b_M_setLong 67 = .ok (.iload 6, 2) := by decide +kernel
theorem d_M_setLong_69 : decode b_M_setLong 69 = .ok (.iastore, 1) := by decide +kernel
theorem d_M_setLong_70 : decode b_M_setLong 70 = .ok (.return_, 1) := by decide +kernel
theorem d_M_copyTo_0 : decode b_M_copyTo 0 = .ok (.iconst 0, 1) := by decide +kernel
theorem d_M_copyTo_1 : decode b_M_copyTo 1 = .ok (.istore_n 3, 1) := by decide +kernel
theorem d_M_copyTo_2 : decode b_M_copyTo 2 = .ok (.iload_n 3, 1) := by decide +kernel
theorem d_M_copyTo_3 : decode b_M_copyTo 3 = .ok (.aload_n 0, 1) := by decide +kernel
theorem d_M_copyTo_4 : decode b_M_copyTo 4 = .ok (.getfield 13, 3) := by decide +kernel
theorem d_M_copyTo_7 : decode b_M_copyTo 7 = .ok (.iload_n 2, 1) := by decide +kernel
theorem d_M_copyTo_8 : decode b_M_copyTo 8 = .ok (.iaload, 1) := by decide +kernel
theorem d_M_copyTo_9 : decode b_M_copyTo 9 = .ok (.if_icmp .ge 33, 3) := by decide +kernel
theorem d_M_copyTo_12 : decode b_M_copyTo 12 = .ok (.aload_n 0, 1) := by decide +kernel
theorem d_M_copyTo_13 : decode b_M_copyTo 13 = .ok (.getfield 7, 3) := by decide +kernel
theorem d_M_copyTo_16 : decode b_M_copyTo 16 = .ok (.sipush 3200, 3) := by decide +kernel
theorem d_M_copyTo_19 : decode b_M_copyTo 19 = .ok (.iload_n 1, 1) := by decide +kernel
theorem d_M_copyTo_20 : decode b_M_copyTo 20 = .ok (.imul, 1) := by decide +kernel
theorem d_M_copyTo_21 : decode b_M_copyTo 21 = .ok (.iload_n 3, 1) := by decide +kernel
theorem d_M_copyTo_22 : decode b_M_copyTo 22 = .ok (.iadd, 1) := by decide +kernel
theorem d_M_copyTo_23 : decode b_M_copyTo 23 = .ok (.aload_n 0, 1) := by decide +kernel
theorem d_M_copyTo_24 : decode b_M_copyTo 24 = .ok (.getfield 7, 3) := by decide +kernel
theorem d_M_copyTo_27 : decode b_M_copyTo 27 = .ok (.sipush 3200, 3) := by decide +kernel
theorem d_M_copyTo_30 : decode b_M_copyTo 30 = .ok (.iload_n 2, 1) := by decide +kernel
theorem d_M_copyTo_31 : decode b_M_copyTo 31 = .ok (.imul, 1) := by decide +kernel
theorem d_M_copyTo_32 : decode b_M_copyTo 32 = .ok (.iload_n 3, 1) := by decide +kernel
theorem d_M_copyTo_33 : decode b_M_copyTo 33 = .ok (.iadd, 1) := by decide +kernel
theorem d_M_copyTo_34 : decode b_M_copyTo 34 = .ok (.iaload, 1) := by decide +kernel
theorem d_M_copyTo_35 : decode b_M_copyTo 35 = .ok (.iastore, 1) := by decide +kernel
theorem d_M_copyTo_36 : decode b_M_copyTo 36 = .ok (.iinc 3 1, 3) := by decide +kernel
theorem d_M_copyTo_39 : decode b_M_copyTo 39 = .ok (.goto (-37), 3) := by decide +kernel
theorem d_M_copyTo_42 : decode b_M_copyTo 42 = .ok (.aload_n 0, 1) := by decide +kernel
theorem d_M_copyTo_43 : decode b_M_copyTo 43 = .ok (.getfield 13, 3) := by decide +kernel
theorem d_M_copyTo_46 : decode b_M_copyTo 46 = .ok (.iload_n 1, 1) := by decide +kernel
theorem d_M_copyTo_47 : decode b_M_copyTo 47 = .ok (.aload_n 0, 1) := by decide +kernel
theorem d_M_copyTo_48 : decode b_M_copyTo 48 = .ok (.getfield 13, 3) := by decide +kernel
theorem d_M_copyTo_51 : decode b_M_copyTo 51 = .ok (.iload_n 2, 1) := by decide +kernel
theorem d_M_copyTo_52 : decode b_M_copyTo 52 = .ok (.iaload, 1) := by decide +kernel
theorem d_M_copyTo_53 : decode b_M_copyTo 53 = .ok (.iastore, 1) := by decide +kernel
theorem d_M_copyTo_54 : decode b_M_copyTo 54 = .ok (.return_, 1) := by decide +kernel
theorem d_M_order_0 : decode b_M_order 0 = .ok (.aload_n 0, 1) := by decide +kernel
theorem d_M_order_1 : decode b_M_order 1 = .ok (.getfield 13, 3) := by decide +kernel
theorem d_M_order_4 : decode b_M_order 4 = .ok (.iload_n 1, 1) := by decide +kernel
theorem d_M_order_5 : decode b_M_order 5 = .ok (.iaload, 1) := by decide +kernel
theorem d_M_order_6 : decode b_M_order 6 = .ok (.aload_n 0, 1) := by decide +kernel
theorem d_M_order_7 : decode b_M_order 7 = .ok (.getfield 13, 3) := by decide +kernel
theorem d_M_order_10 : decode b_M_order 10 = .ok (.iload_n 2, 1) := by decide +kernel
theorem d_M_order_11 : decode b_M_order 11 = .ok (.iaload, 1) := by decide +kernel
theorem d_M_order_12 : decode b_M_order 12 = .ok (.if_icmp .eq 24, 3) := by decide +kernel
theorem d_M_order_15 : decode b_M_order 15 = .ok (.aload_n 0, 1) := by decide +kernel
theorem d_M_order_16 : decode b_M_order 16 = .ok (.getfield 13, 3) := by decide +kernel
theorem d_M_order_19 : decode b_M_order 19 = .ok (.iload_n 1, 1) := by decide +kernel
theorem d_M_order_20 : decode b_M_order 20 = .ok (.iaload, 1) := by decide +kernel
theorem d_M_order_21 : decode b_M_order 21 = .ok (.aload_n 0, 1) := by decide +kernel
theorem d_M_order_22 : decode b_M_order 22 = .ok (.getfield 13, 3) := by decide +kernel
theorem d_M_order_25 : decode b_M_order 25 = .ok (.iload_n 2, 1) := by decide +kernel
theorem d_M_order_26 : decode b_M_order 26 = .ok (.iaload, 1) := by decide +kernel
theorem d_M_order_27 : decode b_M_order 27 = .ok (.if_icmp .ge 7, 3) := by decide +kernel
theorem d_M_order_30 : decode b_M_order 30 = .ok (.iconst (-1), 1) := by decide +kernel
theorem d_M_order_31 : decode b_M_order 31 = .ok (.goto 4, 3) := by decide +kernel
theorem d_M_order_34 : decode b_M_order 34 = .ok (.iconst 1, 1) := by decide +kernel
theorem d_M_order_35 : decode b_M_order 35 = .ok (.ireturn, 1) := by decide +kernel
theorem d_M_order_36 : decode b_M_order 36 = .ok (.aload_n 0, 1) := by decide +kernel
theorem d_M_order_37 : decode b_M_order 37 = .ok (.getfield 13, 3) := by decide +kernel
theorem d_M_order_40 : decode b_M_order 40 = .ok (.iload_n 1, 1) := by decide +kernel
theorem d_M_order_41 : decode b_M_order 41 = .ok (.iaload, 1) := by decide +kernel
theorem d_M_order_42 : decode b_M_order 42 = .ok (.iconst 1, 1) := by decide +kernel
theorem d_M_order_43 : decode b_M_order 43 = .ok (.isub, 1) := by decide +kernel
theorem d_M_order_44 : decode b_M_order 44 = .ok (.istore_n 3, 1) := by decide +kernel
theorem d_M_order_45 : decode b_M_order 45 = .ok (.iload_n 3, 1) := by decide +kernel
theorem d_M_order_46 : decode b_M_order 46 = .ok (.ifCond .lt 52, 3) := by decide +kernel
theorem d_M_order_49 : decode b_M_order 49 = .ok (.aload_n 0, 1) := by decide +kernel
theorem d_M_order_50 : decode b_M_order 50 = .ok (.getfield 7, 3) := by decide +kernel
theorem d_M_order_53 : decode b_M_order 53 = .ok (.sipush 3200, 3) := by decide +kernel
theorem d_M_order_56 : decode b_M_order 56 = .ok (.iload_n 1, 1) := by decide +kernel
theorem d_M_order_57 : decode b_M_order 57 = .ok (.imul, 1) := by decide +kernel
theorem d_M_order_58 : decode b_M_order 58 = .ok (.iload_n 3, 1) := by decide +kernel
theorem d_M_order_59 : decode b_M_order 59 = .ok (.iadd, 1) := by decide +kernel
theorem d_M_order_60 : decode b_M_order 60 = .ok (.iaload, 1) := by decide +kernel
theorem d_M_order_61 : decode b_M_order 61 = .ok (.aload_n 0, 1) := by decide +kernel
theorem d_M_order_62 : decode b_M_order 62 = .ok (.getfield 7, 3) := by decide +kernel
theorem d_M_order_65 : decode b_M_order 65 = .ok (.sipush 3200, 3) := by decide +kernel
theorem d_M_order_68 : decode b_M_order 68 = .ok (.iload_n 2, 1) := by decide +kernel
theorem d_M_order_69 : decode b_M_order 69 = .ok (.imul, 1) := by decide +kernel
theorem d_M_order_70 : decode b_M_order 70 = .ok (.iload_n 3, 1) := by decide +kernel
theorem d_M_order_71 : decode b_M_order 71 = .ok (.iadd, 1) := by decide +kernel
theorem d_M_order_72 : decode b_M_order 72 = .ok (.iaload, 1) := by decide +kernel
theorem d_M_order_73 : decode b_M_order 73 = .ok (.isub, 1) := by decide +kernel
theorem d_M_order_74 : decode b_M_order 74 = .ok (.istore 4, 2) := by decide +kernel
theorem d_M_order_76 : decode b_M_order 76 = .ok (.iload 4, 2) := by decide +kernel
theorem d_M_order_78 : decode b_M_order 78 = .ok (.ifCond .eq 14, 3) := by decide +kernel
theorem d_M_order_81 : decode b_M_order 81 = .ok (.iload 4, 2) := by decide +kernel
theorem d_M_order_83 : decode b_M_order 83 = .ok (.ifCond .ge 7, 3) := by decide +kernel
theorem d_M_order_86 : decode b_M_order 86 = .ok (.iconst (-1), 1) := by decide +kernel
theorem d_M_order_87 : decode b_M_order 87 = .ok (.goto 4, 3) := by decide +kernel
theorem d_M_order_90 : decode b_M_order 90 = .ok (.iconst 1, 1) := by decide +kernel
theorem d_M_order_91 : decode b_M_order 91 = .ok (.ireturn, 1) := by decide +kernel
theorem d_M_order_92 : decode b_M_order 92 = .ok (.iinc 3 (-1), 3) := by decide +kernel
theorem d_M_order_95 : decode b_M_order 95 = .ok (.goto (-50), 3) := by decide +kernel
theorem d_M_order_98 : decode b_M_order 98 = .ok (.iconst 0, 1) := by decide +kernel
theorem d_M_order_99 : decode b_M_order 99 = .ok (.ireturn, 1) := by decide +kernel
theorem d_M_figure_0 : decode b_M_figure 0 = .ok (.iload_n 2, 1) := by decide +kernel
theorem d_M_figure_1 : decode b_M_figure 1 = .ok (.aload_n 0, 1) := by decide +kernel
theorem d_M_figure_2 : decode b_M_figure 2 = .ok (.getfield 13, 3) := by decide +kernel
theorem d_M_figure_5 : decode b_M_figure 5 = .ok (.iload_n 1, 1) := by decide +kernel
theorem d_M_figure_6 : decode b_M_figure 6 = .ok (.iaload, 1) := by decide +kernel
theorem d_M_figure_7 : decode b_M_figure 7 = .ok (.if_icmp .ge 18, 3) := by decide +kernel
theorem d_M_figure_10 : decode b_M_figure 10 = .ok (.aload_n 0, 1) := by decide +kernel
theorem d_M_figure_11 : decode b_M_figure 11 = .ok (.getfield 7, 3) := by decide +kernel
theorem d_M_figure_14 : decode b_M_figure 14 = .ok (.sipush 3200, 3) := by decide +kernel
theorem d_M_figure_17 : decode b_M_figure 17 = .ok (.iload_n 1, 1) := by decide +kernel
theorem d_M_figure_18 : decode b_M_figure 18 = .ok (.imul, 1) := by decide +kernel
theorem d_M_figure_19 : decode b_M_figure 19 = .ok (.iload_n 2, 1) := by decide +kernel
theorem d_M_figure_20 : decode b_M_figure 20 = .ok (.iadd, 1) := by decide +kernel
theorem d_M_figure_21 : decode b_M_figure 21 = .ok (.iaload, 1) := by decide +kernel
theorem d_M_figure_22 : decode b_M_figure 22 = .ok (.goto 4, 3) := by decide +kernel
theorem d_M_figure_25 : decode b_M_figure 25 = .ok (.iconst 0, 1) := by decide +kernel
theorem d_M_figure_26 : decode b_M_figure 26 = .ok (.ireturn, 1) := by decide +kernel
theorem d_M_addTo_0 : decode b_M_addTo 0 = .ok (.aload_n 0, 1) := by decide +kernel
theorem d_M_addTo_1 : decode b_M_addTo 1 = .ok (.getfield 13, 3) := by decide +kernel
theorem d_M_addTo_4 : decode b_M_addTo 4 = .ok (.iload_n 1, 1) := by decide +kernel
theorem d_M_addTo_5 : decode b_M_addTo 5 = .ok (.iaload, 1) := by decide +kernel
theorem d_M_addTo_6 : decode b_M_addTo 6 = .ok (.aload_n 0, 1) := by decide +kernel
theorem d_M_addTo_7 : decode b_M_addTo 7 = .ok (.getfield 13, 3) := by decide +kernel
theorem d_M_addTo_10 : decode b_M_addTo 10 = .ok (.iload_n 2, 1) := by decide +kernel
theorem d_M_addTo_11 : decode b_M_addTo 11 = .ok (.iaload, 1) := by decide +kernel
theorem d_M_addTo_12 : decode b_M_addTo 12 = .ok (.if_icmp .le 12, 3) := by decide +kernel
theorem d_M_addTo_15 : decode b_M_addTo 15 = .ok (.aload_n 0, 1) := by decide +kernel
theorem d_M_addTo_16 : decode b_M_addTo 16 = .ok (.getfield 13, 3) := by decide +kernel
theorem d_M_addTo_19 : decode b_M_addTo 19 = .ok (.iload_n 1, 1) := by decide +kernel
theorem d_M_addTo_20 : decode b_M_addTo 20 = .ok (.iaload, 1) := by decide +kernel
theorem d_M_addTo_21 : decode b_M_addTo 21 = .ok (.goto 9, 3) := by decide +kernel
theorem d_M_addTo_24 : decode b_M_addTo 24 = .ok (.aload_n 0, 1) := by decide +kernel
theorem d_M_addTo_25 : decode b_M_addTo 25 = .ok (.getfield 13, 3) := by decide +kernel
theorem d_M_addTo_28 : decode b_M_addTo 28 = .ok (.iload_n 2, 1) := by decide +kernel
theorem d_M_addTo_29 : decode b_M_addTo 29 = .ok (.iaload, 1) := by decide +kernel
theorem d_M_addTo_30 : decode b_M_addTo 30 = .ok (.istore_n 3, 1) := by decide +kernel
theorem d_M_addTo_31 : decode b_M_addTo 31 = .ok (.iconst 0, 1) := by decide +kernel
theorem d_M_addTo_32 : decode b_M_addTo 32 = .ok (.istore 4, 2) := by decide +kernel
theorem d_M_addTo_34 : decode b_M_addTo 34 = .ok (.iconst 0, 1) := by decide +kernel
theorem d_M_addTo_35 : decode b_M_addTo 35 = .ok (.istore 5, 2) := by decide +kernel
theorem d_M_addTo_37 : decode b_M_addTo 37 = .ok (.iload 5, 2) := by decide +kernel
theorem d_M_addTo_39 : decode b_M_addTo 39 = .ok (.iload_n 3, 1) := by decide +kernel
theorem d_M_addTo_40 : decode b_M_addTo 40 = .ok (.if_icmp .ge 56, 3) := by decide +kernel
theorem d_M_addTo_43 : decode b_M_addTo 43 = .ok (.aload_n 0, 1) := by decide +kernel
theorem d_M_addTo_44 : decode b_M_addTo 44 = .ok (.iload_n 1, 1) := by decide +kernel
theorem d_M_addTo_45 : decode b_M_addTo 45 = .ok (.iload 5, 2) := by decide +kernel
theorem d_M_addTo_47 : decode b_M_addTo 47 = .ok (.invokevirtual 42, 3) := by decide +kernel
theorem d_M_addTo_50 : decode b_M_addTo 50 = .ok (.aload_n 0, 1) := by decide +kernel
theorem d_M_addTo_51 : decode b_M_addTo 51 = .ok (.iload_n 2, 1) := by decide +kernel
theorem d_M_addTo_52 : decode b_M_addTo 52 = .ok (.iload 5, 2) := by decide +kernel
theorem d_M_addTo_54 : decode b_M_addTo 54 = .ok (.invokevirtual 42, 3) := by decide +kernel
theorem d_M_addTo_57 : decode b_M_addTo 57 = .ok (.iadd, 1) := by decide +kernel
theorem d_M_addTo_58 : decode b_M_addTo 58 = .ok (.iload 4, 2) := by decide +kernel
theorem d_M_addTo_60 : decode b_M_addTo 60 = .ok (.iadd, 1) := by decide +kernel
theorem d_M_addTo_61 : decode b_M_addTo 61 = .ok (.istore 6, 2) := by decide +kernel
theorem d_M_addTo_63 : decode b_M_addTo 63 = .ok (.aload_n 0, 1) := by decide +kernel
theorem d_M_addTo_64 : decode b_M_addTo 64 = .ok (.getfield 7, 3) := by decide +kernel
theorem d_M_addTo_67 : decode b_M_addTo 67 = .ok (.sipush 3200, 3) := by decide +kernel
theorem d_M_addTo_70 : decode b_M_addTo 70 = .ok (.iload_n 1, 1) := by decide +kernel
theorem d_M_addTo_71 : decode b_M_addTo 71 = .ok (.imul, 1) := by decide +kernel
theorem d_M_addTo_72 : decode b_M_addTo 72 = .ok (.iload 5, 2) := by decide +kernel
theorem d_M_addTo_74 : decode b_M_addTo 74 = .ok (.iadd, 1) := by decide +kernel
theorem d_M_addTo_75 : decode b_M_addTo 75 = .ok (.iload 6, 2) := by decide +kernel
theorem d_M_addTo_77 : decode b_M_addTo 77 = .ok (.sipush 10000, 3) := by decide +kernel
theorem d_M_addTo_80 : decode b_M_addTo 80 = .ok (.irem, 1) := by decide +kernel
theorem d_M_addTo_81 : decode b_M_addTo 81 = .ok (.iastore, 1) := by decide +kernel
theorem d_M_addTo_82 : decode b_M_addTo 82 = .ok (.iload 6, 2) := by decide +kernel
theorem d_M_addTo_84 : decode b_M_addTo 84 = .ok (.sipush 10000, 3) := by decide +kernel
theorem d_M_addTo_87 : decode b_M_addTo 87 = .ok (.idiv, 1) := by decide +kernel
theorem d_M_addTo_88 : decode b_M_addTo 88 = .ok (.istore 4, 2) := by decide +kernel
theorem d_M_addTo_90 : decode b_M_addTo 90 = .ok (.iinc 5 1, 3) := by decide +kernel
theorem d_M_addTo_93 : decode b_M_addTo 93 = .ok (.goto (-56), 3) := by decide +kernel
theorem d_M_addTo_96 : decode b_M_addTo 96 = .ok (.aload_n 0, 1) := by decide +kernel
theorem d_M_addTo_97 : decode b_M_addTo 97 = .ok (.getfield 7, 3) := by decide +kernel
theorem d_M_addTo_100 : decode b_M_addTo 100 = .ok (.sipush 3200, 3) := by decide +kernel
theorem d_M_addTo_103 : decode b_M_addTo 103 = .ok (.iload_n 1, 1) := by decide +kernel
theorem d_M_addTo_104 : decode b_M_addTo 104 = .ok (.imul, 1) := by decide +kernel
theorem d_M_addTo_105 : decode b_M_addTo 105 = .ok (.iload_n 3, 1) := by decide +kernel
theorem d_M_addTo_106 : decode b_M_addTo 106 = .ok (.iadd, 1) := by decide +kernel
theorem d_M_addTo_107 : decode b_M_addTo 107 = .ok (.iload 4, 2) := by decide +kernel
theorem d_M_addTo_109 : decode b_M_addTo 109 = .ok (.iastore, 1) := by decide +kernel
theorem d_M_addTo_110 : decode b_M_addTo 110 = .ok (.aload_n 0, 1) := by decide +kernel
theorem d_M_addTo_111 : decode b_M_addTo 111 = .ok (.iload_n 1, 1) := by decide +kernel
theorem d_M_addTo_112 : decode b_M_addTo 112 = .ok (.iload_n 3, 1) := by decide +kernel
theorem d_M_addTo_113 : decode b_M_addTo 113 = .ok (.iconst 1, 1) := by decide +kernel
theorem d_M_addTo_114 : decode b_M_addTo 114 = .ok (.iadd, 1) := by decide +kernel
theorem d_M_addTo_115 : decode b_M_addTo 115 = .ok (.invokevirtual 46, 3) := by decide +kernel
theorem d_M_addTo_118 : decode b_M_addTo 118 = .ok (.return_, 1) := by decide +kernel
theorem d_M_takeFrom_0 : decode b_M_takeFrom 0 = .ok (.iconst 0, 1) := by decide +kernel
theorem d_M_takeFrom_1 : decode b_M_takeFrom 1 = .ok (.istore_n 3, 1) := by decide +kernel
theorem d_M_takeFrom_2 : decode b_M_takeFrom 2 = .ok (.iconst 0, 1) := by decide +kernel
theorem d_M_takeFrom_3 : decode b_M_takeFrom 3 = .ok (.istore 4, 2) := by decide +kernel
theorem d_M_takeFrom_5 : decode b_M_takeFrom 5 = .ok (.iload 4, 2) := by decide +kernel
theorem d_M_takeFrom_7 : decode b_M_takeFrom 7 = .ok (.aload_n 0, 1) := by decide +kernel
theorem d_M_takeFrom_8 : decode b_M_takeFrom 8 = .ok (.getfield 13, 3) := by decide +kernel
theorem d_M_takeFrom_11 : decode b_M_takeFrom 11 = .ok (.iload_n 1, 1) := by decide +kernel
theorem d_M_takeFrom_12 : decode b_M_takeFrom 12 = .ok (.iaload, 1) := by decide +kernel
theorem d_M_takeFrom_13 : decode b_M_takeFrom 13 = .ok (.if_icmp .ge 74, 3) := by decide +kernel
theorem d_M_takeFrom_16 : decode b_M_takeFrom 16 = .ok (.aload_n 0, 1) := by decide +kernel
theorem d_M_takeFrom_17 : decode b_M_takeFrom 17 = .ok (.getfield 7, 3) := by decide +kernel
theorem d_M_takeFrom_20 : decode b_M_takeFrom 20 = .ok (.sipush 3200, 3) := by decide +kernel
theorem d_M_takeFrom_23 : decode b_M_takeFrom 23 = .ok (.iload_n 1, 1) := by decide +kernel
theorem d_M_takeFrom_24 : decode b_M_takeFrom 24 = .ok (.imul, 1) := by decide +kernel
theorem d_M_takeFrom_25 : decode b_M_takeFrom 25 = .ok (.iload 4, 2) := by decide +kernel
theorem d_M_takeFrom_27 : decode b_M_takeFrom 27 = .ok (.iadd, 1) := by decide +kernel
theorem d_M_takeFrom_28 : decode b_M_takeFrom 28 = .ok (.iaload, 1) := by decide +kernel
theorem d_M_takeFrom_29 : decode b_M_takeFrom 29 = .ok (.aload_n 0, 1) := by decide +kernel
theorem d_M_takeFrom_30 : decode b_M_takeFrom 30 = .ok (.iload_n 2, 1) := by decide +kernel
theorem d_M_takeFrom_31 : decode b_M_takeFrom 31 = .ok (.iload 4, 2) := by decide +kernel
theorem d_M_takeFrom_33 : decode b_M_takeFrom 33 = .ok (.invokevirtual 42, 3) := by decide +kernel
theorem d_M_takeFrom_36 : decode b_M_takeFrom 36 = .ok (.isub, 1) := by decide +kernel
theorem d_M_takeFrom_37 : decode b_M_takeFrom 37 = .ok (.iload_n 3, 1) := by decide +kernel
theorem d_M_takeFrom_38 : decode b_M_takeFrom 38 = .ok (.isub, 1) := by decide +kernel
theorem d_M_takeFrom_39 : decode b_M_takeFrom 39 = .ok (.istore 5, 2) := by decide +kernel
theorem d_M_takeFrom_41 : decode b_M_takeFrom 41 = .ok (.iload 5, 2) := by decide +kernel
theorem d_M_takeFrom_43 : decode b_M_takeFrom 43 = .ok (.ifCond .ge 7, 3) := by decide +kernel
theorem d_M_takeFrom_46 : decode b_M_takeFrom 46 = .ok (.iconst 1, 1) := by decide +kernel
theorem d_M_takeFrom_47 : decode b_M_takeFrom 47 = .ok (.goto 4, 3) := by decide +kernel
theorem d_M_takeFrom_50 : decode b_M_takeFrom 50 = .ok (.iconst 0, 1) := by decide +kernel
theorem d_M_takeFrom_51 : decode b_M_takeFrom 51 = .ok (.istore_n 3, 1) := by decide +kernel
theorem d_M_takeFrom_52 : decode b_M_takeFrom 52 = .ok (.aload_n 0, 1) := by decide +kernel
theorem d_M_takeFrom_53 : decode b_M_takeFrom 53 = .ok (.getfield 7, 3) := by decide +kernel
theorem d_M_takeFrom_56 : decode b_M_takeFrom 56 = .ok (.sipush 3200, 3) := by decide +kernel
theorem d_M_takeFrom_59 : decode b_M_takeFrom 59 = .ok (.iload_n 1, 1) := by decide +kernel
theorem d_M_takeFrom_60 : decode b_M_takeFrom 60 = .ok (.imul, 1) := by decide +kernel
theorem d_M_takeFrom_61 : decode b_M_takeFrom 61 = .ok (.iload 4, 2) := by decide +kernel
theorem d_M_takeFrom_63 : decode b_M_takeFrom 63 = .ok (.iadd, 1) := by decide +kernel
theorem d_M_takeFrom_64 : decode b_M_takeFrom 64 = .ok (.iload 5, 2) := by decide +kernel
theorem d_M_takeFrom_66 : decode b_M_takeFrom 66 = .ok (.ifCond .ge 12, 3) := by decide +kernel
theorem d_M_takeFrom_69 : decode b_M_takeFrom 69 = .ok (.iload 5, 2) := by decide +kernel
theorem d_M_takeFrom_71 : decode b_M_takeFrom 71 = .ok (.sipush 10000, 3) := by decide +kernel
theorem d_M_takeFrom_74 : decode b_M_takeFrom 74 = .ok (.iadd, 1) := by decide +kernel
theorem d_M_takeFrom_75 : decode b_M_takeFrom 75 = .ok (.goto 5, 3) := by decide +kernel
theorem d_M_takeFrom_78 : decode b_M_takeFrom 78 = .ok (.iload 5, 2) := by decide +kernel
theorem d_M_takeFrom_80 : decode b_M_takeFrom 80 = .ok (.iastore, 1) := by decide +kernel
theorem d_M_takeFrom_81 : decode b_M_takeFrom 81 = .ok (.iinc 4 1, 3) := by decide +kernel
theorem d_M_takeFrom_84 : decode b_M_takeFrom 84 = .ok (.goto (-79), 3) := by decide +kernel
theorem d_M_takeFrom_87 : decode b_M_takeFrom 87 = .ok (.aload_n 0, 1) := by decide +kernel
theorem d_M_takeFrom_88 : decode b_M_takeFrom 88 = .ok (.iload_n 1, 1) := by decide +kernel
theorem d_M_takeFrom_89 : decode b_M_takeFrom 89 = .ok (.aload_n 0, 1) := by decide +kernel
theorem d_M_takeFrom_90 : decode b_M_takeFrom 90 = .ok (.getfield 13, 3) := by decide +kernel
theorem d_M_takeFrom_93 : decode b_M_takeFrom 93 = .ok (.iload_n 1, 1) := by decide +kernel
theorem d_M_takeFrom_94 : decode b_M_takeFrom 94 = .ok (.iaload, 1) := by decide +kernel
theorem d_M_takeFrom_95 : decode b_M_takeFrom 95 = .ok (.invokevirtual 46, 3) := by decide +kernel
theorem d_M_takeFrom_98 : decode b_M_takeFrom 98 = .ok (.return_, 1) := by decide +kernel
theorem d_M_small_0 : decode b_M_small 0 = .ok (.lconst 0, 1) := by decide +kernel
theorem d_M_small_1 : decode b_M_small 1 = .ok (.lstore_n 3, 1) := by decide +kernel
theorem d_M_small_2 : decode b_M_small 2 = .ok (.aload_n 0, 1) := by decide +kernel
theorem d_M_small_3 : decode b_M_small 3 = .ok (.getfield 13, 3) := by decide +kernel
theorem d_M_small_6 : decode b_M_small 6 = .ok (.iload_n 1, 1) := by decide +kernel
theorem d_M_small_7 : decode b_M_small 7 = .ok (.iaload, 1) := by decide +kernel
theorem d_M_small_8 : decode b_M_small 8 = .ok (.istore 5, 2) := by decide +kernel
theorem d_M_small_10 : decode b_M_small 10 = .ok (.iconst 0, 1) := by decide +kernel
theorem d_M_small_11 : decode b_M_small 11 = .ok (.istore 6, 2) := by decide +kernel
theorem d_M_small_13 : decode b_M_small 13 = .ok (.iload 6, 2) := by decide +kernel
theorem d_M_small_15 : decode b_M_small 15 = .ok (.iload 5, 2) := by decide +kernel
theorem d_M_small_17 : decode b_M_small 17 = .ok (.if_icmp .ge 54, 3) := by decide +kernel
theorem d_M_small_20 : decode b_M_small 20 = .ok (.lload_n 3, 1) := by decide +kernel
theorem d_M_small_21 : decode b_M_small 21 = .ok (.aload_n 0, 1) := by decide +kernel
theorem d_M_small_22 : decode b_M_small 22 = .ok (.getfield 7, 3) := by decide +kernel
theorem d_M_small_25 : decode b_M_small 25 = .ok (.sipush 3200, 3) := by decide +kernel
theorem d_M_small_28 : decode b_M_small 28 = .ok (.iload_n 1, 1) := by decide +kernel
theorem d_M_small_29 : decode b_M_small 29 = .ok (.imul, 1) := by decide +kernel
theorem d_M_small_30 : decode b_M_small 30 = .ok (.iload 6, 2) := by decide +kernel
theorem d_M_small_32 : decode b_M_small 32 = .ok (.iadd, 1) := by decide +kernel
theorem d_M_small_33 : decode b_M_small 33 = .ok (.iaload, 1) := by decide +kernel
theorem d_M_small_34 : decode b_M_small 34 = .ok (.i2l, 1) := by decide +kernel
theorem d_M_small_35 : decode b_M_small 35 = .ok (.iload_n 2, 1) := by decide +kernel
theorem d_M_small_36 : decode b_M_small 36 = .ok (.i2l, 1) := by decide +kernel
theorem d_M_small_37 : decode b_M_small 37 = .ok (.lmul, 1) := by decide +kernel
theorem d_M_small_38 : decode b_M_small 38 = .ok (.ladd, 1) := by decide +kernel
theorem d_M_small_39 : decode b_M_small 39 = .ok (.lstore_n 3, 1) := by decide +kernel
theorem d_M_small_40 : decode b_M_small 40 = .ok (.aload_n 0, 1) := by decide +kernel
theorem d_M_small_41 : decode b_M_small 41 = .ok (.getfield 7, 3) := by decide +kernel
theorem d_M_small_44 : decode b_M_small 44 = .ok (.sipush 3200, 3) := by decide +kernel
theorem d_M_small_47 : decode b_M_small 47 = .ok (.iload_n 1, 1) := by decide +kernel
theorem d_M_small_48 : decode b_M_small 48 = .ok (.imul, 1) := by decide +kernel
theorem d_M_small_49 : decode b_M_small 49 = .ok (.iload 6, 2) := by decide +kernel
theorem d_M_small_51 : decode b_M_small 51 = .ok (.iadd, 1) := by decide +kernel
theorem d_M_small_52 : decode b_M_small 52 = .ok (.lload_n 3, 1) := by decide +kernel
theorem d_M_small_53 : decode b_M_small 53 = .ok (.ldc2_w 40, 3) := by decide +kernel
theorem d_M_small_56 : decode b_M_small 56 = .ok (.lrem, 1) := by decide +kernel
theorem d_M_small_57 : decode b_M_small 57 = .ok (.l2i, 1) := by decide +kernel
theorem d_M_small_58 : decode b_M_small 58 = .ok (.iastore, 1) := by decide +kernel
theorem d_M_small_59 : decode b_M_small 59 = .ok (.lload_n 3, 1) := by decide +kernel
theorem d_M_small_60 : decode b_M_small 60 = .ok (.ldc2_w 40, 3) := by decide +kernel
theorem d_M_small_63 : decode b_M_small 63 = .ok (.ldiv, 1) := by decide +kernel
theorem d_M_small_64 : decode b_M_small 64 = .ok (.lstore_n 3, 1) := by decide +kernel
theorem d_M_small_65 : decode b_M_small 65 = .ok (.iinc 6 1, 3) := by decide +kernel
theorem d_M_small_68 : decode b_M_small 68 = .ok (.goto (-55), 3) := by decide +kernel
theorem d_M_small_71 : decode b_M_small 71 = .ok (.lload_n 3, 1) := by decide +kernel
theorem d_M_small_72 : decode b_M_small 72 = .ok (.lconst 0, 1) := by decide +kernel
theorem d_M_small_73 : decode b_M_small 73 = .ok (.lcmp, 1) := by decide +kernel
theorem d_M_small_74 : decode b_M_small 74 = .ok (.ifCond .le 34, 3) := by decide +kernel
theorem d_M_small_77 : decode b_M_small 77 = .ok (.aload_n 0, 1) := by decide +kernel
theorem d_M_small_78 : decode b_M_small 78 = .ok (.getfield 7, 3) := by decide +kernel
theorem d_M_small_81 : decode b_M_small 81 = .ok (.sipush 3200, 3) := by decide +kernel
theorem d_M_small_84 : decode b_M_small 84 = .ok (.iload_n 1, 1) := by decide +kernel
theorem d_M_small_85 : decode b_M_small 85 = .ok (.imul, 1) := by decide +kernel
theorem d_M_small_86 : decode b_M_small 86 = .ok (.iload 5, 2) := by decide +kernel
theorem d_M_small_88 : decode b_M_small 88 = .ok (.iadd, 1) := by decide +kernel
theorem d_M_small_89 : decode b_M_small 89 = .ok (.lload_n 3, 1) := by decide +kernel
theorem d_M_small_90 : decode b_M_small 90 = .ok (.ldc2_w 40, 3) := by decide +kernel
theorem d_M_small_93 : decode b_M_small 93 = .ok (.lrem, 1) := by decide +kernel
theorem d_M_small_94 : decode b_M_small 94 = .ok (.l2i, 1) := by decide +kernel
theorem d_M_small_95 : decode b_M_small 95 = .ok (.iastore, 1) := by decide +kernel
theorem d_M_small_96 : decode b_M_small 96 = .ok (.lload_n 3, 1) := by decide +kernel
theorem d_M_small_97 : decode b_M_small 97 = .ok (.ldc2_w 40, 3) := by decide +kernel
theorem d_M_small_100 : decode b_M_small 100 = .ok (.ldiv, 1) := by decide +kernel
theorem d_M_small_101 : decode b_M_small 101 = .ok (.lstore_n 3, 1) := by decide +kernel
theorem d_M_small_102 : decode b_M_small 102 = .ok (.iinc 5 1, 3) := by decide +kernel
theorem d_M_small_105 : decode b_M_small 105 = .ok (.goto (-34), 3) := by decide +kernel
theorem d_M_small_108 : decode b_M_small 108 = .ok (.aload_n 0, 1) := by decide +kernel
theorem d_M_small_109 : decode b_M_small 109 = .ok (.iload_n 1, 1) := by decide +kernel
theorem d_M_small_110 : decode b_M_small 110 = .ok (.iload 5, 2) := by decide +kernel
theorem d_M_small_112 : decode b_M_small 112 = .ok (.invokevirtual 46, 3) := by decide +kernel
theorem d_M_small_115 : decode b_M_small 115 = .ok (.return_, 1) := by decide +kernel
theorem d_M_product_0 : decode b_M_product 0 = .ok (.aload_n 0, 1) := by decide +kernel
theorem d_M_product_1 : decode b_M_product 1 = .ok (.getfield 13, 3) := by decide +kernel
theorem d_M_product_4 : decode b_M_product 4 = .ok (.iload_n 2, 1) := by decide +kernel
theorem d_M_product_5 : decode b_M_product 5 = .ok (.iaload, 1) := by decide +kernel
theorem d_M_product_6 : decode b_M_product 6 = .ok (.aload_n 0, 1) := by decide +kernel
theorem d_M_product_7 : decode b_M_product 7 = .ok (.getfield 13, 3) := by decide +kernel
theorem d_M_product_10 : decode b_M_product 10 = .ok (.iload_n 3, 1) := by decide +kernel
theorem d_M_product_11 : decode b_M_product 11 = .ok (.iaload, 1) := by decide +kernel
theorem d_M_product_12 : decode b_M_product 12 = .ok (.iadd, 1) := by decide +kernel
theorem d_M_product_13 : decode b_M_product 13 = .ok (.istore 4, 2) := by decide +kernel
theorem d_M_product_15 : decode b_M_product 15 = .ok (.iconst 0, 1) := by decide +kernel
theorem d_M_product_16 : decode b_M_product 16 = .ok (.istore 5, 2) := by decide +kernel
theorem d_M_product_18 : decode b_M_product 18 = .ok (.iload 5, 2) := by decide +kernel
theorem d_M_product_20 : decode b_M_product 20 = .ok (.iload 4, 2) := by decide +kernel
theorem d_M_product_22 : decode b_M_product 22 = .ok (.if_icmp .ge 23, 3) := by decide +kernel
theorem d_M_product_25 : decode b_M_product 25 = .ok (.aload_n 0, 1) := by decide +kernel
theorem d_M_product_26 : decode b_M_product 26 = .ok (.getfield 7, 3) := by decide +kernel
theorem d_M_product_29 : decode b_M_product 29 = .ok (.sipush 3200, 3) := by decide +kernel
theorem d_M_product_32 : decode b_M_product 32 = .ok (.iload_n 1, 1) := by decide +kernel
theorem d_M_product_33 : decode b_M_product 33 = .ok (.imul, 1) := by decide +kernel
theorem d_M_product_34 : decode b_M_product 34 = .ok (.iload 5, 2) := by decide +kernel
theorem d_M_product_36 : decode b_M_product 36 = .ok (.iadd, 1) := by decide +kernel
theorem d_M_product_37 : decode b_M_product 37 = .ok (.iconst 0, 1) := by decide +kernel
theorem d_M_product_38 : decode b_M_product 38 = .ok (.iastore, 1) := by decide +kernel
theorem d_M_product_39 : decode b_M_product 39 = .ok (.iinc 5 1, 3) := by decide +kernel
theorem d_M_product_42 : decode b_M_product 42 = .ok (.goto (-24), 3) := by decide +kernel
theorem d_M_product_45 : decode b_M_product 45 = .ok (.iconst 0, 1) := by decide +kernel
theorem d_M_product_46 : decode b_M_product 46 = .ok (.istore 5, 2) := by decide +kernel
theorem d_M_product_48 : decode b_M_product 48 = .ok (.iload 5, 2) := by decide +kernel
theorem d_M_product_50 : decode b_M_product 50 = .ok (.aload_n 0, 1) := by decide +kernel
theorem d_M_product_51 : decode b_M_product 51 = .ok (.getfield 13, 3) := by decide +kernel
theorem d_M_product_54 : decode b_M_product 54 = .ok (.iload_n 2, 1) := by decide +kernel
theorem d_M_product_55 : decode b_M_product 55 = .ok (.iaload, 1) := by decide +kernel
theorem d_M_product_56 : decode b_M_product 56 = .ok (.if_icmp .ge 182, 3) := by decide +kernel
theorem d_M_product_59 : decode b_M_product 59 = .ok (.aload_n 0, 1) := by decide +kernel
theorem d_M_product_60 : decode b_M_product 60 = .ok (.getfield 7, 3) := by decide +kernel
theorem d_M_product_63 : decode b_M_product 63 = .ok (.sipush 3200, 3) := by decide +kernel
theorem d_M_product_66 : decode b_M_product 66 = .ok (.iload_n 2, 1) := by decide +kernel
theorem d_M_product_67 : decode b_M_product 67 = .ok (.imul, 1) := by decide +kernel
theorem d_M_product_68 : decode b_M_product 68 = .ok (.iload 5, 2) := by decide +kernel
theorem d_M_product_70 : decode b_M_product 70 = .ok (.iadd, 1) := by decide +kernel
theorem d_M_product_71 : decode b_M_product 71 = .ok (.iaload, 1) := by decide +kernel
theorem d_M_product_72 : decode b_M_product 72 = .ok (.istore 6, 2) := by decide +kernel
theorem d_M_product_74 : decode b_M_product 74 = .ok (.iconst 0, 1) := by decide +kernel
theorem d_M_product_75 : decode b_M_product 75 = .ok (.istore 7, 2) := by decide +kernel
theorem d_M_product_77 : decode b_M_product 77 = .ok (.iconst 0, 1) := by decide +kernel
theorem d_M_product_78 : decode b_M_product 78 = .ok (.istore 8, 2) := by decide +kernel
theorem d_M_product_80 : decode b_M_product 80 = .ok (.iload 8, 2) := by decide +kernel
theorem d_M_product_82 : decode b_M_product 82 = .ok (.aload_n 0, 1) := by decide +kernel
theorem d_M_product_83 : decode b_M_product 83 = .ok (.getfield 13, 3) := by decide +kernel
theorem d_M_product_86 : decode b_M_product 86 = .ok (.iload_n 3, 1) := by decide +kernel
theorem d_M_product_87 : decode b_M_product 87 = .ok (.iaload, 1) := by decide +kernel
theorem d_M_product_88 : decode b_M_product 88 = .ok (.if_icmp .ge 77, 3) := by decide +kernel
theorem d_M_product_91 : decode b_M_product 91 = .ok (.aload_n 0, 1) := by decide +kernel
theorem d_M_product_92 : decode b_M_product 92 = .ok (.getfield 7, 3) := by decide +kernel
theorem d_M_product_95 : decode b_M_product 95 = .ok (.sipush 3200, 3) := by decide +kernel
theorem d_M_product_98 : decode b_M_product 98 = .ok (.iload_n 1, 1) := by decide +kernel
theorem d_M_product_99 : decode b_M_product 99 = .ok (.imul, 1) := by decide +kernel
theorem d_M_product_100 : decode b_M_product 100 = .ok (.iload 5, 2) := by decide +kernel
theorem d_M_product_102 : decode b_M_product 102 = .ok (.iadd, 1) := by decide +kernel
theorem d_M_product_103 : decode b_M_product 103 = .ok (.iload 8, 2) := by decide +kernel
theorem d_M_product_105 : decode b_M_product 105 = .ok (.iadd, 1) := by decide +kernel
theorem d_M_product_106 : decode b_M_product 106 = .ok (.iaload, 1) := by decide +kernel
theorem d_M_product_107 : decode b_M_product 107 = .ok (.iload 6, 2) := by decide +kernel
theorem d_M_product_109 : decode b_M_product 109 = .ok (.aload_n 0, 1) := by decide +kernel
theorem d_M_product_110 : decode b_M_product 110 = .ok (.getfield 7, 3) := by decide +kernel
theorem d_M_product_113 : decode b_M_product 113 = .ok (.sipush 3200, 3) := by decide +kernel
theorem d_M_product_116 : decode b_M_product 116 = .ok (.iload_n 3, 1) := by decide +kernel
theorem d_M_product_117 : decode b_M_product 117 = .ok (.imul, 1) := by decide +kernel
theorem d_M_product_118 : decode b_M_product 118 = .ok (.iload 8, 2) := by decide +kernel
theorem d_M_product_120 : decode b_M_product 120 = .ok (.iadd, 1) := by decide +kernel
theorem d_M_product_121 : decode b_M_product 121 = .ok (.iaload, 1) := by decide +kernel
theorem d_M_product_122 : decode b_M_product 122 = .ok (.imul, 1) := by decide +kernel
theorem d_M_product_123 : decode b_M_product 123 = .ok (.iadd, 1) := by decide +kernel
theorem d_M_product_124 : decode b_M_product 124 = .ok (.iload 7, 2) := by decide +kernel
theorem d_M_product_126 : decode b_M_product 126 = .ok (.iadd, 1) := by decide +kernel
theorem d_M_product_127 : decode b_M_product 127 = .ok (.istore 9, 2) := by decide +kernel
theorem d_M_product_129 : decode b_M_product 129 = .ok (.aload_n 0, 1) := by decide +kernel
theorem d_M_product_130 : decode b_M_product 130 = .ok (.getfield 7, 3) := by decide +kernel
theorem d_M_product_133 : decode b_M_product 133 = .ok (.sipush 3200, 3) := by decide +kernel
theorem d_M_product_136 : decode b_M_product 136 = .ok (.iload_n 1, 1) := by decide +kernel
theorem d_M_product_137 : decode b_M_product 137 = .ok (.imul, 1) := by decide +kernel
theorem d_M_product_138 : decode b_M_product 138 = .ok (.iload 5, 2) := by decide +kernel
theorem d_M_product_140 : decode b_M_product 140 = .ok (.iadd, 1) := by decide +kernel
theorem d_M_product_141 : decode b_M_product 141 = .ok (.iload 8, 2) := by decide +kernel
theorem d_M_product_143 : decode b_M_product 143 = .ok (.iadd, 1) := by decide +kernel
theorem d_M_product_144 : decode b_M_product 144 = .ok (.iload 9, 2) := by decide +kernel
theorem d_M_product_146 : decode b_M_product 146 = .ok (.sipush 10000, 3) := by decide +kernel
theorem d_M_product_149 : decode b_M_product 149 = .ok (.irem, 1) := by decide +kernel
theorem d_M_product_150 : decode b_M_product 150 = .ok (.iastore, 1) := by decide +kernel
theorem d_M_product_151 : decode b_M_product 151 = .ok (.iload 9, 2) := by decide +kernel
theorem d_M_product_153 : decode b_M_product 153 = .ok (.sipush 10000, 3) := by decide +kernel
theorem d_M_product_156 : decode b_M_product 156 = .ok (.idiv, 1) := by decide +kernel
theorem d_M_product_157 : decode b_M_product 157 = .ok (.istore 7, 2) := by decide +kernel
theorem d_M_product_159 : decode b_M_product 159 = .ok (.iinc 8 1, 3) := by decide +kernel
theorem d_M_product_162 : decode b_M_product 162 = .ok (.goto (-82), 3) := by decide +kernel
theorem d_M_product_165 : decode b_M_product 165 = .ok (.iload 5, 2) := by decide +kernel
theorem d_M_product_167 : decode b_M_product 167 = .ok (.aload_n 0, 1) := by decide +kernel
theorem d_M_product_168 : decode b_M_product 168 = .ok (.getfield 13, 3) := by decide +kernel
theorem d_M_product_171 : decode b_M_product 171 = .ok (.iload_n 3, 1) := by decide +kernel
theorem d_M_product_172 : decode b_M_product 172 = .ok (.iaload, 1) := by decide +kernel
theorem d_M_product_173 : decode b_M_product 173 = .ok (.iadd, 1) := by decide +kernel
theorem d_M_product_174 : decode b_M_product 174 = .ok (.istore 8, 2) := by decide +kernel
theorem d_M_product_176 : decode b_M_product 176 = .ok (.iload 7, 2) := by decide +kernel
theorem d_M_product_178 : decode b_M_product 178 = .ok (.ifCond .le 54, 3) := by decide +kernel
theorem d_M_product_181 : decode b_M_product 181 = .ok (.aload_n 0, 1) := by decide +kernel
theorem d_M_product_182 : decode b_M_product 182 = .ok (.getfield 7, 3) := by decide +kernel
theorem d_M_product_185 : decode b_M_product 185 = .ok (.sipush 3200, 3) := by decide +kernel
theorem d_M_product_188 : decode b_M_product 188 = .ok (.iload_n 1, 1) := by decide +kernel
theorem d_M_product_189 : decode b_M_product 189 = .ok (.imul, 1) := by decide +kernel
theorem d_M_product_190 : decode b_M_product 190 = .ok (.iload 8, 2) := by decide +kernel
theorem d_M_product_192 : decode b_M_product 192 = .ok (.iadd, 1) := by decide +kernel
theorem d_M_product_193 : decode b_M_product 193 = .ok (.iaload, 1) := by decide +kernel
theorem d_M_product_194 : decode b_M_product 194 = .ok (.iload 7, 2) := by decide +kernel
theorem d_M_product_196 : decode b_M_product 196 = .ok (.iadd, 1) := by decide +kernel
theorem d_M_product_197 : decode b_M_product 197 = .ok (.istore 9, 2) := by decide +kernel
theorem d_M_product_199 : decode b_M_product 199 = .ok (.aload_n 0, 1) := by decide +kernel
theorem d_M_product_200 : decode b_M_product 200 = .ok (.getfield 7, 3) := by decide +kernel
theorem d_M_product_203 : decode b_M_product 203 = .ok (.sipush 3200, 3) := by decide +kernel
theorem d_M_product_206 : decode b_M_product 206 = .ok (.iload_n 1, 1) := by decide +kernel
theorem d_M_product_207 : decode b_M_product 207 = .ok (.imul, 1) := by decide +kernel
theorem d_M_product_208 : decode b_M_product 208 = .ok (.iload 8, 2) := by decide +kernel
theorem d_M_product_210 : decode b_M_product 210 = .ok (.iadd, 1) := by decide +kernel
theorem d_M_product_211 : decode b_M_product 211 = .ok (.iload 9, 2) := by decide +kernel
theorem d_M_product_213 : decode b_M_product 213 = .ok (.sipush 10000, 3) := by decide +kernel
theorem d_M_product_216 : decode b_M_product 216 = .ok (.irem, 1) := by decide +kernel
theorem d_M_product_217 : decode b_M_product 217 = .ok (.iastore, 1) := by decide +kernel
theorem d_M_product_218 : decode b_M_product 218 = .ok (.iload 9, 2) := by decide +kernel
theorem d_M_product_220 : decode b_M_product 220 = .ok (.sipush 10000, 3) := by decide +kernel
theorem d_M_product_223 : decode b_M_product 223 = .ok (.idiv, 1) := by decide +kernel
theorem d_M_product_224 : decode b_M_product 224 = .ok (.istore 7, 2) := by decide +kernel
theorem d_M_product_226 : decode b_M_product 226 = .ok (.iinc 8 1, 3) := by decide +kernel
theorem d_M_product_229 : decode b_M_product 229 = .ok (.goto (-53), 3) := by decide +kernel
theorem d_M_product_232 : decode b_M_product 232 = .ok (.iinc 5 1, 3) := by decide +kernel
theorem d_M_product_235 : decode b_M_product 235 = .ok (.goto (-187), 3) := by decide +kernel
theorem d_M_product_238 : decode b_M_product 238 = .ok (.aload_n 0, 1) := by decide +kernel
theorem d_M_product_239 : decode b_M_product 239 = .ok (.iload_n 1, 1) := by decide +kernel
theorem d_M_product_240 : decode b_M_product 240 = .ok (.iload 4, 2) := by decide +kernel
theorem d_M_product_242 : decode b_M_product 242 = .ok (.invokevirtual 46, 3) := by decide +kernel
theorem d_M_product_245 : decode b_M_product 245 = .ok (.return_, 1) := by decide +kernel
theorem d_M_takes_0 : decode b_M_takes 0 = .ok (.iconst 0, 1) := by decide +kernel
theorem d_M_takes_1 : decode b_M_takes 1 = .ok (.istore 5, 2) := by decide +kernel
theorem d_M_takes_3 : decode b_M_takes 3 = .ok (.aload_n 0, 1) := by decide +kernel
theorem d_M_takes_4 : decode b_M_takes 4 = .ok (.getfield 13, 3) := by decide +kernel
theorem d_M_takes_7 : decode b_M_takes 7 = .ok (.iload_n 2, 1) := by decide +kernel
theorem d_M_takes_8 : decode b_M_takes 8 = .ok (.iaload, 1) := by decide +kernel
theorem d_M_takes_9 : decode b_M_takes 9 = .ok (.istore 6, 2) := by decide +kernel
theorem d_M_takes_11 : decode b_M_takes 11 = .ok (.iconst 0, 1) := by decide +kernel
theorem d_M_takes_12 : decode b_M_takes 12 = .ok (.istore 7, 2) := by decide +kernel
theorem d_M_takes_14 : decode b_M_takes 14 = .ok (.iload 7, 2) := by decide +kernel
theorem d_M_takes_16 : decode b_M_takes 16 = .ok (.iload 6, 2) := by decide +kernel
theorem d_M_takes_18 : decode b_M_takes 18 = .ok (.if_icmp .gt 111, 3) := by decide +kernel
theorem d_M_takes_21 : decode b_M_takes 21 = .ok (.aload_n 0, 1) := by decide +kernel
theorem d_M_takes_22 : decode b_M_takes 22 = .ok (.getfield 7, 3) := by decide +kernel
theorem d_M_takes_25 : decode b_M_takes 25 = .ok (.sipush 3200, 3) := by decide +kernel
theorem d_M_takes_28 : decode b_M_takes 28 = .ok (.iload_n 1, 1) := by decide +kernel
theorem d_M_takes_29 : decode b_M_takes 29 = .ok (.imul, 1) := by decide +kernel
theorem d_M_takes_30 : decode b_M_takes 30 = .ok (.iload_n 3, 1) := by decide +kernel
theorem d_M_takes_31 : decode b_M_takes 31 = .ok (.iadd, 1) := by decide +kernel
theorem d_M_takes_32 : decode b_M_takes 32 = .ok (.iload 7, 2) := by decide +kernel
theorem d_M_takes_34 : decode b_M_takes 34 = .ok (.iadd, 1) := by decide +kernel
theorem d_M_takes_35 : decode b_M_takes 35 = .ok (.iaload, 1) := by decide +kernel
theorem d_M_takes_36 : decode b_M_takes 36 = .ok (.iload 4, 2) := by decide +kernel
theorem d_M_takes_38 : decode b_M_takes 38 = .ok (.iload 7, 2) := by decide +kernel
theorem d_M_takes_40 : decode b_M_takes 40 = .ok (.iload 6, 2) := by decide +kernel
theorem d_M_takes_42 : decode b_M_takes 42 = .ok (.if_icmp .ge 19, 3) := by decide +kernel
theorem d_M_takes_45 : decode b_M_takes 45 = .ok (.aload_n 0, 1) := by decide +kernel
theorem d_M_takes_46 : decode b_M_takes 46 = .ok (.getfield 7, 3) := by decide +kernel
theorem d_M_takes_49 : decode b_M_takes 49 = .ok (.sipush 3200, 3) := by decide +kernel
theorem d_M_takes_52 : decode b_M_takes 52 = .ok (.iload_n 2, 1) := by decide +kernel
theorem d_M_takes_53 : decode b_M_takes 53 = .ok (.imul, 1) := by decide +kernel
theorem d_M_takes_54 : decode b_M_takes 54 = .ok (.iload 7, 2) := by decide +kernel
theorem d_M_takes_56 : decode b_M_takes 56 = .ok (.iadd, 1) := by decide +kernel
theorem d_M_takes_57 : decode b_M_takes 57 = .ok (.iaload, 1) := by decide +kernel
theorem d_M_takes_58 : decode b_M_takes 58 = .ok (.goto 4, 3) := by decide +kernel
theorem d_M_takes_61 : decode b_M_takes 61 = .ok (.iconst 0, 1) := by decide +kernel
theorem d_M_takes_62 : decode b_M_takes 62 = .ok (.imul, 1) := by decide +kernel
theorem d_M_takes_63 : decode b_M_takes 63 = .ok (.isub, 1) := by decide +kernel
theorem d_M_takes_64 : decode b_M_takes 64 = .ok (.iload 5, 2) := by decide +kernel
theorem d_M_takes_66 : decode b_M_takes 66 = .ok (.isub, 1) := by decide +kernel
theorem d_M_takes_67 : decode b_M_takes 67 = .ok (.istore 8, 2) := by decide +kernel
theorem d_M_takes_69 : decode b_M_takes 69 = .ok (.iload 8, 2) := by decide +kernel
theorem d_M_takes_71 : decode b_M_takes 71 = .ok (.sipush 10000, 3) := by decide +kernel
theorem d_M_takes_74 : decode b_M_takes 74 = .ok (.irem, 1) := by decide +kernel
theorem d_M_takes_75 : decode b_M_takes 75 = .ok (.istore 9, 2) := by decide +kernel
theorem d_M_takes_77 : decode b_M_takes 77 = .ok (.iload 9, 2) := by decide +kernel
theorem d_M_takes_79 : decode b_M_takes 79 = .ok (.ifCond .ge 12, 3) := by decide +kernel
theorem d_M_takes_82 : decode b_M_takes 82 = .ok (.iload 9, 2) := by decide +kernel
theorem d_M_takes_84 : decode b_M_takes 84 = .ok (.sipush 10000, 3) := by decide +kernel
theorem d_M_takes_87 : decode b_M_takes 87 = .ok (.iadd, 1) := by decide +kernel
theorem d_M_takes_88 : decode b_M_takes 88 = .ok (.goto 5, 3) := by decide +kernel
theorem d_M_takes_91 : decode b_M_takes 91 = .ok (.iload 9, 2) := by decide +kernel
theorem d_M_takes_93 : decode b_M_takes 93 = .ok (.istore 9, 2) := by decide +kernel
theorem d_M_takes_95 : decode b_M_takes 95 = .ok (.iload 9, 2) := by decide +kernel
theorem d_M_takes_97 : decode b_M_takes 97 = .ok (.iload 8, 2) := by decide +kernel
theorem d_M_takes_99 : decode b_M_takes 99 = .ok (.isub, 1) := by decide +kernel
theorem d_M_takes_100 : decode b_M_takes 100 = .ok (.sipush 10000, 3) := by decide +kernel
theorem d_M_takes_103 : decode b_M_takes 103 = .ok (.idiv, 1) := by decide +kernel
theorem d_M_takes_104 : decode b_M_takes 104 = .ok (.istore 5, 2) := by decide +kernel
theorem d_M_takes_106 : decode b_M_takes 106 = .ok (.aload_n 0, 1) := by decide +kernel
theorem d_M_takes_107 : decode b_M_takes 107 = .ok (.getfield 7, 3) := by decide +kernel
theorem d_M_takes_110 : decode b_M_takes 110 = .ok (.sipush 3200, 3) := by decide +kernel
theorem d_M_takes_113 : decode b_M_takes 113 = .ok (.iload_n 1, 1) := by decide +kernel
theorem d_M_takes_114 : decode b_M_takes 114 = .ok (.imul, 1) := by decide +kernel
theorem d_M_takes_115 : decode b_M_takes 115 = .ok (.iload_n 3, 1) := by decide +kernel
theorem d_M_takes_116 : decode b_M_takes 116 = .ok (.iadd, 1) := by decide +kernel
theorem d_M_takes_117 : decode b_M_takes 117 = .ok (.iload 7, 2) := by decide +kernel
theorem d_M_takes_119 : decode b_M_takes 119 = .ok (.iadd, 1) := by decide +kernel
theorem d_M_takes_120 : decode b_M_takes 120 = .ok (.iload 9, 2) := by decide +kernel
theorem d_M_takes_122 : decode b_M_takes 122 = .ok (.iastore, 1) := by decide +kernel
theorem d_M_takes_123 : decode b_M_takes 123 = .ok (.iinc 7 1, 3) := by decide +kernel
theorem d_M_takes_126 : decode b_M_takes 126 = .ok (.goto (-112), 3) := by decide +kernel
theorem d_M_takes_129 : decode b_M_takes 129 = .ok (.iload 5, 2) := by decide +kernel
theorem d_M_takes_131 : decode b_M_takes 131 = .ok (.ifCond .ne 5, 3) := by decide +kernel
theorem d_M_takes_134 : decode b_M_takes 134 = .ok (.iconst 1, 1) := by decide +kernel
theorem d_M_takes_135 : decode b_M_takes 135 = .ok (.ireturn, 1) := by decide +kernel
theorem d_M_takes_136 : decode b_M_takes 136 = .ok (.iconst 0, 1) := by decide +kernel
theorem d_M_takes_137 : decode b_M_takes 137 = .ok (.istore 7, 2) := by decide +kernel
theorem d_M_takes_139 : decode b_M_takes 139 = .ok (.iconst 0, 1) := by decide +kernel
theorem d_M_takes_140 : decode b_M_takes 140 = .ok (.istore 8, 2) := by decide +kernel
theorem d_M_takes_142 : decode b_M_takes 142 = .ok (.iload 8, 2) := by decide +kernel
theorem d_M_takes_144 : decode b_M_takes 144 = .ok (.iload 6, 2) := by decide +kernel
theorem d_M_takes_146 : decode b_M_takes 146 = .ok (.if_icmp .gt 86, 3) := by decide +kernel
theorem d_M_takes_149 : decode b_M_takes 149 = .ok (.aload_n 0, 1) := by decide +kernel
theorem d_M_takes_150 : decode b_M_takes 150 = .ok (.getfield 7, 3) := by decide +kernel
theorem d_M_takes_153 : decode b_M_takes 153 = .ok (.sipush 3200, 3) := by decide +kernel
theorem d_M_takes_156 : decode b_M_takes 156 = .ok (.iload_n 1, 1) := by decide +kernel
theorem d_M_takes_157 : decode b_M_takes 157 = .ok (.imul, 1) := by decide +kernel
theorem d_M_takes_158 : decode b_M_takes 158 = .ok (.iload_n 3, 1) := by decide +kernel
theorem d_M_takes_159 : decode b_M_takes 159 = .ok (.iadd, 1) := by decide +kernel
theorem d_M_takes_160 : decode b_M_takes 160 = .ok (.iload 8, 2) := by decide +kernel
theorem d_M_takes_162 : decode b_M_takes 162 = .ok (.iadd, 1) := by decide +kernel
theorem d_M_takes_163 : decode b_M_takes 163 = .ok (.iaload, 1) := by decide +kernel
theorem d_M_takes_164 : decode b_M_takes 164 = .ok (.iload 4, 2) := by decide +kernel
theorem d_M_takes_166 : decode b_M_takes 166 = .ok (.iload 8, 2) := by decide +kernel
theorem d_M_takes_168 : decode b_M_takes 168 = .ok (.iload 6, 2) := by decide +kernel
theorem d_M_takes_170 : decode b_M_takes 170 = .ok (.if_icmp .ge 19, 3) := by decide +kernel
theorem d_M_takes_173 : decode b_M_takes 173 = .ok (.aload_n 0, 1) := by decide +kernel
theorem d_M_takes_174 : decode b_M_takes 174 = .ok (.getfield 7, 3) := by decide +kernel
theorem d_M_takes_177 : decode b_M_takes 177 = .ok (.sipush 3200, 3) := by decide +kernel
theorem d_M_takes_180 : decode b_M_takes 180 = .ok (.iload_n 2, 1) := by decide +kernel
theorem d_M_takes_181 : decode b_M_takes 181 = .ok (.imul, 1) := by decide +kernel
theorem d_M_takes_182 : decode b_M_takes 182 = .ok (.iload 8, 2) := by decide +kernel
theorem d_M_takes_184 : decode b_M_takes 184 = .ok (.iadd, 1) := by decide +kernel
theorem d_M_takes_185 : decode b_M_takes 185 = .ok (.iaload, 1) := by decide +kernel
theorem d_M_takes_186 : decode b_M_takes 186 = .ok (.goto 4, 3) := by decide +kernel
theorem d_M_takes_189 : decode b_M_takes 189 = .ok (.iconst 0, 1) := by decide +kernel
theorem d_M_takes_190 : decode b_M_takes 190 = .ok (.imul, 1) := by decide +kernel
theorem d_M_takes_191 : decode b_M_takes 191 = .ok (.iadd, 1) := by decide +kernel
theorem d_M_takes_192 : decode b_M_takes 192 = .ok (.iload 7, 2) := by decide +kernel
theorem d_M_takes_194 : decode b_M_takes 194 = .ok (.iadd, 1) := by decide +kernel
theorem d_M_takes_195 : decode b_M_takes 195 = .ok (.istore 9, 2) := by decide +kernel
theorem d_M_takes_197 : decode b_M_takes 197 = .ok (.aload_n 0, 1) := by decide +kernel
theorem d_M_takes_198 : decode b_M_takes 198 = .ok (.getfield 7, 3) := by decide +kernel
theorem d_M_takes_201 : decode b_M_takes 201 = .ok (.sipush 3200, 3) := by decide +kernel
theorem d_M_takes_204 : decode b_M_takes 204 = .ok (.iload_n 1, 1) := by decide +kernel
theorem d_M_takes_205 : decode b_M_takes 205 = .ok (.imul, 1) := by decide +kernel
theorem d_M_takes_206 : decode b_M_takes 206 = .ok (.iload_n 3, 1) := by decide +kernel
theorem d_M_takes_207 : decode b_M_takes 207 = .ok (.iadd, 1) := by decide +kernel
theorem d_M_takes_208 : decode b_M_takes 208 = .ok (.iload 8, 2) := by decide +kernel
