theorem d_D_split_0 : decode b_D_split 0 = .ok (.aload_n 0, 1) := by decide +kernel
theorem d_D_split_1 : decode b_D_split 1 = .ok (.aload_n 1, 1) := by decide +kernel
theorem d_D_split_2 : decode b_D_split 2 = .ok (.invokevirtual 9, 3) := by decide +kernel
theorem d_D_split_5 : decode b_D_split 5 = .ok (.ifCond .ge 16, 3) := by decide +kernel
theorem d_D_split_8 : decode b_D_split 8 = .ok (.aload_n 2, 1) := by decide +kernel
theorem d_D_split_9 : decode b_D_split 9 = .ok (.iconst 0, 1) := by decide +kernel
theorem d_D_split_10 : decode b_D_split 10 = .ok (.invokevirtual 15, 3) := by decide +kernel
theorem d_D_split_13 : decode b_D_split 13 = .ok (.aload_n 0, 1) := by decide +kernel
theorem d_D_split_14 : decode b_D_split 14 = .ok (.iconst 0, 1) := by decide +kernel
theorem d_D_split_15 : decode b_D_split 15 = .ok (.putfield 19, 3) := by decide +kernel
theorem d_D_split_18 : decode b_D_split 18 = .ok (.goto 40, 3) := by decide +kernel
theorem d_D_split_21 : decode b_D_split 21 = .ok (.aload_n 1, 1) := by decide +kernel
theorem d_D_split_22 : decode b_D_split 22 = .ok (.getfield 23, 3) := by decide +kernel
theorem d_D_split_25 : decode b_D_split 25 = .ok (.iconst 1, 1) := by decide +kernel
theorem d_D_split_26 : decode b_D_split 26 = .ok (.if_icmp .gt 26, 3) := by decide +kernel
theorem d_D_split_29 : decode b_D_split 29 = .ok (.aload_n 2, 1) := by decide +kernel
theorem d_D_split_30 : decode b_D_split 30 = .ok (.aload_n 0, 1) := by decide +kernel
theorem d_D_split_31 : decode b_D_split 31 = .ok (.invokevirtual 27, 3) := by decide +kernel
theorem d_D_split_34 : decode b_D_split 34 = .ok (.aload_n 2, 1) := by decide +kernel
theorem d_D_split_35 : decode b_D_split 35 = .ok (.aload_n 1, 1) := by decide +kernel
theorem d_D_split_36 : decode b_D_split 36 = .ok (.iconst 0, 1) := by decide +kernel
theorem d_D_split_37 : decode b_D_split 37 = .ok (.invokevirtual 31, 3) := by decide +kernel
theorem d_D_split_40 : decode b_D_split 40 = .ok (.invokevirtual 35, 3) := by decide +kernel
theorem d_D_split_43 : decode b_D_split 43 = .ok (.lstore_n 3, 1) := by decide +kernel
theorem d_D_split_44 : decode b_D_split 44 = .ok (.aload_n 0, 1) := by decide +kernel
theorem d_D_split_45 : decode b_D_split 45 = .ok (.lload_n 3, 1) := by decide +kernel
theorem d_D_split_46 : decode b_D_split 46 = .ok (.invokevirtual 39, 3) := by decide +kernel
theorem d_D_split_49 : decode b_D_split 49 = .ok (.goto 9, 3) := by decide +kernel
theorem d_D_split_52 : decode b_D_split 52 = .ok (.aload_n 0, 1) := by decide +kernel
theorem d_D_split_53 : decode b_D_split 53 = .ok (.aload_n 1, 1) := by decide +kernel
theorem d_D_split_54 : decode b_D_split 54 = .ok (.aload_n 2, 1) := by decide +kernel
theorem d_D_split_55 : decode b_D_split 55 = .ok (.invokestatic 43, 3) := by decide +kernel
theorem d_D_split_58 : decode b_D_split 58 = .ok (.return_, 1) := by decide +kernel
theorem d_D_splitByLong_0 : decode b_D_splitByLong 0 = .ok (.aload_n 1, 1) := by decide +kernel
theorem d_D_splitByLong_1 : decode b_D_splitByLong 1 = .ok (.getfield 23, 3) := by decide +kernel
theorem d_D_splitByLong_4 : decode b_D_splitByLong 4 = .ok (.istore_n 3, 1) := by decide +kernel
theorem d_D_splitByLong_5 : decode b_D_splitByLong 5 = .ok (.aload_n 0, 1) := by decide +kernel
theorem d_D_splitByLong_6 : decode b_D_splitByLong 6 = .ok (.getfield 23, 3) := by decide +kernel
theorem d_D_splitByLong_9 : decode b_D_splitByLong 9 = .ok (.iload_n 3, 1) := by decide +kernel
theorem d_D_splitByLong_10 : decode b_D_splitByLong 10 = .ok (.isub, 1) := by decide +kernel
theorem d_D_splitByLong_11 : decode b_D_splitByLong 11 = .ok (.istore 4, 2) := by decide +kernel
theorem d_D_splitByLong_13 : decode b_D_splitByLong 13 = .ok (.aload_n 1, 1) := by decide +kernel
theorem d_D_splitByLong_14 : decode b_D_splitByLong 14 = .ok (.getfield 49, 3) := by decide +kernel
theorem d_D_splitByLong_17 : decode b_D_splitByLong 17 = .ok (.iload_n 3, 1) := by decide +kernel
theorem d_D_splitByLong_18 : decode b_D_splitByLong 18 = .ok (.iconst 1, 1) := by decide +kernel
theorem d_D_splitByLong_19 : decode b_D_splitByLong 19 = .ok (.isub, 1) := by decide +kernel
theorem d_D_splitByLong_20 : decode b_D_splitByLong 20 = .ok (.iaload, 1) := by decide +kernel
theorem d_D_splitByLong_21 : decode b_D_splitByLong 21 = .ok (.invokestatic 53, 3) := by decide +kernel
theorem d_D_splitByLong_24 : decode b_D_splitByLong 24 = .ok (.istore 5, 2) := by decide +kernel
theorem d_D_splitByLong_26 : decode b_D_splitByLong 26 = .ok (.aload_n 0, 1) := by decide +kernel
theorem d_D_splitByLong_27 : decode b_D_splitByLong 27 = .ok (.iload 5, 2) := by decide +kernel
theorem d_D_splitByLong_29 : decode b_D_splitByLong 29 = .ok (.invokevirtual 59, 3) := by decide +kernel
theorem d_D_splitByLong_32 : decode b_D_splitByLong 32 = .ok (.aload_n 1, 1) := by decide +kernel
theorem d_D_splitByLong_33 : decode b_D_splitByLong 33 = .ok (.iload 5, 2) := by decide +kernel
theorem d_D_splitByLong_35 : decode b_D_splitByLong 35 = .ok (.invokevirtual 59, 3) := by decide +kernel
theorem d_D_splitByLong_38 : decode b_D_splitByLong 38 = .ok (.iload 4, 2) := by decide +kernel
theorem d_D_splitByLong_40 : decode b_D_splitByLong 40 = .ok (.istore 6, 2) := by decide +kernel
theorem d_D_splitByLong_42 : decode b_D_splitByLong 42 = .ok (.iload 6, 2) := by decide +kernel
theorem d_D_splitByLong_44 : decode b_D_splitByLong 44 = .ok (.ifCond .lt 89, 3) := by decide +kernel
theorem d_D_splitByLong_47 : decode b_D_splitByLong 47 = .ok (.aload_n 0, 1) := by decide +kernel
theorem d_D_splitByLong_48 : decode b_D_splitByLong 48 = .ok (.getfield 49, 3) := by decide +kernel
theorem d_D_splitByLong_51 : decode b_D_splitByLong 51 = .ok (.iload 6, 2) := by decide +kernel
theorem d_D_splitByLong_53 : decode b_D_splitByLong 53 = .ok (.iload_n 3, 1) := by decide +kernel
theorem d_D_splitByLong_54 : decode b_D_splitByLong 54 = .ok (.iadd, 1) := by decide +kernel
theorem d_D_splitByLong_55 : decode b_D_splitByLong 55 = .ok (.aload_n 1, 1) := by decide +kernel
theorem d_D_splitByLong_56 : decode b_D_splitByLong 56 = .ok (.getfield 49, 3) := by decide +kernel
theorem d_D_splitByLong_59 : decode b_D_splitByLong 59 = .ok (.iload_n 3, 1) := by decide +kernel
theorem d_D_splitByLong_60 : decode b_D_splitByLong 60 = .ok (.iconst 1, 1) := by decide +kernel
theorem d_D_splitByLong_61 : decode b_D_splitByLong 61 = .ok (.isub, 1) := by decide +kernel
theorem d_D_splitByLong_62 : decode b_D_splitByLong 62 = .ok (.iaload, 1) := by decide +kernel
theorem d_D_splitByLong_63 : decode b_D_splitByLong 63 = .ok (.i2l, 1) := by decide +kernel
theorem d_D_splitByLong_64 : decode b_D_splitByLong 64 = .ok (.ldc2_w 62, 3) := by decide +kernel
theorem d_D_splitByLong_67 : decode b_D_splitByLong 67 = .ok (.land, 1) := by decide +kernel
theorem d_D_splitByLong_68 : decode b_D_splitByLong 68 = .ok (.aload_n 1, 1) := by decide +kernel
theorem d_D_splitByLong_69 : decode b_D_splitByLong 69 = .ok (.getfield 49, 3) := by decide +kernel
theorem d_D_splitByLong_72 : decode b_D_splitByLong 72 = .ok (.iload_n 3, 1) := by decide +kernel
theorem d_D_splitByLong_73 : decode b_D_splitByLong 73 = .ok (.iconst 2, 1) := by decide +kernel
theorem d_D_splitByLong_74 : decode b_D_splitByLong 74 = .ok (.isub, 1) := by decide +kernel
theorem d_D_splitByLong_75 : decode b_D_splitByLong 75 = .ok (.iaload, 1) := by decide +kernel
theorem d_D_splitByLong_76 : decode b_D_splitByLong 76 = .ok (.i2l, 1) := by decide +kernel
theorem d_D_splitByLong_77 : decode b_D_splitByLong 77 = .ok (.ldc2_w 62, 3) := by decide +kernel
theorem d_D_splitByLong_80 : decode b_D_splitByLong 80 = .ok (.land, 1) := by decide +kernel
theorem d_D_splitByLong_81 : decode b_D_splitByLong 81 = .ok (.invokestatic 64, 3) := by decide +kernel
theorem d_D_splitByLong_84 : decode b_D_splitByLong 84 = .ok (.lstore 7, 2) := by decide +kernel
theorem d_D_splitByLong_86 : decode b_D_splitByLong 86 = .ok (.aload_n 0, 1) := by decide +kernel
theorem d_D_splitByLong_87 : decode b_D_splitByLong 87 = .ok (.getfield 49, 3) := by decide +kernel
theorem d_D_splitByLong_90 : decode b_D_splitByLong 90 = .ok (.iload 6, 2) := by decide +kernel
theorem d_D_splitByLong_92 : decode b_D_splitByLong 92 = .ok (.aload_n 1, 1) := by decide +kernel
theorem d_D_splitByLong_93 : decode b_D_splitByLong 93 = .ok (.lload 7, 2) := by decide +kernel
theorem d_D_splitByLong_95 : decode b_D_splitByLong 95 = .ok (.invokestatic 68, 3) := by decide +kernel
theorem d_D_splitByLong_98 : decode b_D_splitByLong 98 = .ok (.ifCond .eq 19, 3) := by decide +kernel
theorem d_D_splitByLong_101 : decode b_D_splitByLong 101 = .ok (.aload_n 0, 1) := by decide +kernel
theorem d_D_splitByLong_102 : decode b_D_splitByLong 102 = .ok (.getfield 49, 3) := by decide +kernel
theorem d_D_splitByLong_105 : decode b_D_splitByLong 105 = .ok (.iload 6, 2) := by decide +kernel
theorem d_D_splitByLong_107 : decode b_D_splitByLong 107 = .ok (.aload_n 1, 1) := by decide +kernel
theorem d_D_splitByLong_108 : decode b_D_splitByLong 108 = .ok (.invokestatic 72, 3) := by decide +kernel
theorem d_D_splitByLong_111 : decode b_D_splitByLong 111 = .ok (.lload 7, 2) := by decide +kernel
theorem d_D_splitByLong_113 : decode b_D_splitByLong 113 = .ok (.lconst 1, 1) := by decide +kernel
theorem d_D_splitByLong_114 : decode b_D_splitByLong 114 = .ok (.lsub, 1) := by decide +kernel
theorem d_D_splitByLong_115 : decode b_D_splitByLong 115 = .ok (.lstore 7, 2) := by decide +kernel
theorem d_D_splitByLong_117 : decode b_D_splitByLong 117 = .ok (.aload_n 2, 1) := by decide +kernel
theorem d_D_splitByLong_118 : decode b_D_splitByLong 118 = .ok (.getfield 49, 3) := by decide +kernel
theorem d_D_splitByLong_121 : decode b_D_splitByLong 121 = .ok (.iload 6, 2) := by decide +kernel
theorem d_D_splitByLong_123 : decode b_D_splitByLong 123 = .ok (.lload 7, 2) := by decide +kernel
theorem d_D_splitByLong_125 : decode b_D_splitByLong 125 = .ok (.l2i, 1) := by decide +kernel
theorem d_D_splitByLong_126 : decode b_D_splitByLong 126 = .ok (.iastore, 1) := by decide +kernel
theorem d_D_splitByLong_127 : decode b_D_splitByLong 127 = .ok (.iinc 6 (-1), 3) := by decide +kernel
theorem d_D_splitByLong_130 : decode b_D_splitByLong 130 = .ok (.goto (-88), 3) := by decide +kernel
theorem d_D_splitByLong_133 : decode b_D_splitByLong 133 = .ok (.aload_n 2, 1) := by decide +kernel
theorem d_D_splitByLong_134 : decode b_D_splitByLong 134 = .ok (.iload 4, 2) := by decide +kernel
theorem d_D_splitByLong_136 : decode b_D_splitByLong 136 = .ok (.iconst 1, 1) := by decide +kernel
theorem d_D_splitByLong_137 : decode b_D_splitByLong 137 = .ok (.iadd, 1) := by decide +kernel
theorem d_D_splitByLong_138 : decode b_D_splitByLong 138 = .ok (.invokevirtual 15, 3) := by decide +kernel
theorem d_D_splitByLong_141 : decode b_D_splitByLong 141 = .ok (.aload_n 0, 1) := by decide +kernel
theorem d_D_splitByLong_142 : decode b_D_splitByLong 142 = .ok (.iload_n 3, 1) := by decide +kernel
theorem d_D_splitByLong_143 : decode b_D_splitByLong 143 = .ok (.invokevirtual 15, 3) := by decide +kernel
theorem d_D_splitByLong_146 : decode b_D_splitByLong 146 = .ok (.aload_n 0, 1) := by decide +kernel
theorem d_D_splitByLong_147 : decode b_D_splitByLong 147 = .ok (.iload 5, 2) := by decide +kernel
theorem d_D_splitByLong_149 : decode b_D_splitByLong 149 = .ok (.invokevirtual 76, 3) := by decide +kernel
theorem d_D_splitByLong_152 : decode b_D_splitByLong 152 = .ok (.aload_n 1, 1) := by decide +kernel
theorem d_D_splitByLong_153 : decode b_D_splitByLong 153 = .ok (.iload 5, 2) := by decide +kernel
theorem d_D_splitByLong_155 : decode b_D_splitByLong 155 = .ok (.invokevirtual 76, 3) := by decide +kernel
theorem d_D_splitByLong_158 : decode b_D_splitByLong 158 = .ok (.return_, 1) := by decide +kernel
theorem d_D_guess_0 : decode b_D_guess 0 = .ok (.aload_n 0, 1) := by decide +kernel
theorem d_D_guess_1 : decode b_D_guess 1 = .ok (.iload_n 1, 1) := by decide +kernel
theorem d_D_guess_2 : decode b_D_guess 2 = .ok (.iaload, 1) := by decide +kernel
theorem d_D_guess_3 : decode b_D_guess 3 = .ok (.i2l, 1) := by decide +kernel
theorem d_D_guess_4 : decode b_D_guess 4 = .ok (.ldc2_w 62, 3) := by decide +kernel
theorem d_D_guess_7 : decode b_D_guess 7 = .ok (.land, 1) := by decide +kernel
theorem d_D_guess_8 : decode b_D_guess 8 = .ok (.bipush 32, 2) := by decide +kernel
theorem d_D_guess_10 : decode b_D_guess 10 = .ok (.lshl, 1) := by decide +kernel
theorem d_D_guess_11 : decode b_D_guess 11 = .ok (.aload_n 0, 1) := by decide +kernel
theorem d_D_guess_12 : decode b_D_guess 12 = .ok (.iload_n 1, 1) := by decide +kernel
theorem d_D_guess_13 : decode b_D_guess 13 = .ok (.iconst 1, 1) := by decide +kernel
theorem d_D_guess_14 : decode b_D_guess 14 = .ok (.isub, 1) := by decide +kernel
theorem d_D_guess_15 : decode b_D_guess 15 = .ok (.iaload, 1) := by decide +kernel
theorem d_D_guess_16 : decode b_D_guess 16 = .ok (.i2l, 1) := by decide +kernel
theorem d_D_guess_17 : decode b_D_guess 17 = .ok (.ldc2_w 62, 3) := by decide +kernel
theorem d_D_guess_20 : decode b_D_guess 20 = .ok (.land, 1) := by decide +kernel
theorem d_D_guess_21 : decode b_D_guess 21 = .ok (.lor, 1) := by decide +kernel
theorem d_D_guess_22 : decode b_D_guess 22 = .ok (.lstore 6, 2) := by decide +kernel
theorem d_D_guess_24 : decode b_D_guess 24 = .ok (.aload_n 0, 1) := by decide +kernel
theorem d_D_guess_25 : decode b_D_guess 25 = .ok (.iload_n 1, 1) := by decide +kernel
theorem d_D_guess_26 : decode b_D_guess 26 = .ok (.iconst 2, 1) := by decide +kernel
theorem d_D_guess_27 : decode b_D_guess 27 = .ok (.isub, 1) := by decide +kernel
theorem d_D_guess_28 : decode b_D_guess 28 = .ok (.iaload, 1) := by decide +kernel
theorem d_D_guess_29 : decode b_D_guess 29 = .ok (.i2l, 1) := by decide +kernel
theorem d_D_guess_30 : decode b_D_guess 30 = .ok (.ldc2_w 62, 3) := by decide +kernel
theorem d_D_guess_33 : decode b_D_guess 33 = .ok (.land, 1) := by decide +kernel
theorem d_D_guess_34 : decode b_D_guess 34 = .ok (.lstore 8, 2) := by decide +kernel
theorem d_D_guess_36 : decode b_D_guess 36 = .ok (.aload_n 0, 1) := by decide +kernel
theorem d_D_guess_37 : decode b_D_guess 37 = .ok (.iload_n 1, 1) := by decide +kernel
theorem d_D_guess_38 : decode b_D_guess 38 = .ok (.iaload, 1) := by decide +kernel
theorem d_D_guess_39 : decode b_D_guess 39 = .ok (.i2l, 1) := by decide +kernel
theorem d_D_guess_40 : decode b_D_guess 40 = .ok (.ldc2_w 62, 3) := by decide +kernel
theorem d_D_guess_43 : decode b_D_guess 43 = .ok (.land, 1) := by decide +kernel
theorem d_D_guess_44 : decode b_D_guess 44 = .ok (.lload_n 2, 1) := by decide +kernel
theorem d_D_guess_45 : decode b_D_guess 45 = .ok (.lcmp, 1) := by decide +kernel
theorem d_D_guess_46 : decode b_D_guess 46 = .ok (.ifCond .lt 9, 3) := by decide +kernel
theorem d_D_guess_49 : decode b_D_guess 49 = .ok (.ldc2_w 62, 3) := by decide +kernel
theorem d_D_guess_52 : decode b_D_guess 52 = .ok (.goto 9, 3) := by decide +kernel
theorem d_D_guess_55 : decode b_D_guess 55 = .ok (.lload 6, 2) := by decide +kernel
theorem d_D_guess_57 : decode b_D_guess 57 = .ok (.lload_n 2, 1) := by decide +kernel
theorem d_D_guess_58 : decode b_D_guess 58 = .ok (.invokestatic 79, 3) := by decide +kernel
theorem d_D_guess_61 : decode b_D_guess 61 = .ok (.lstore 10, 2) := by decide +kernel
theorem d_D_guess_63 : decode b_D_guess 63 = .ok (.lload 6, 2) := by decide +kernel
theorem d_D_guess_65 : decode b_D_guess 65 = .ok (.lload 10, 2) := by decide +kernel
theorem d_D_guess_67 : decode b_D_guess 67 = .ok (.lload_n 2, 1) := by decide +kernel
theorem d_D_guess_68 : decode b_D_guess 68 = .ok (.lmul, 1) := by decide +kernel
theorem d_D_guess_69 : decode b_D_guess 69 = .ok (.lsub, 1) := by decide +kernel
theorem d_D_guess_70 : decode b_D_guess 70 = .ok (.lstore 12, 2) := by decide +kernel
theorem d_D_guess_72 : decode b_D_guess 72 = .ok (.iconst 0, 1) := by decide +kernel
theorem d_D_guess_73 : decode b_D_guess 73 = .ok (.istore 14, 2) := by decide +kernel
theorem d_D_guess_75 : decode b_D_guess 75 = .ok (.iload 14, 2) := by decide +kernel
theorem d_D_guess_77 : decode b_D_guess 77 = .ok (.iconst 2, 1) := by decide +kernel
theorem d_D_guess_78 : decode b_D_guess 78 = .ok (.if_icmp .ge 58, 3) := by decide +kernel
theorem d_D_guess_81 : decode b_D_guess 81 = .ok (.lload 12, 2) := by decide +kernel
theorem d_D_guess_83 : decode b_D_guess 83 = .ok (.ldc2_w 62, 3) := by decide +kernel
theorem d_D_guess_86 : decode b_D_guess 86 = .ok (.lcmp, 1) := by decide +kernel
theorem d_D_guess_87 : decode b_D_guess 87 = .ok (.ifCond .gt 49, 3) := by decide +kernel
theorem d_D_guess_90 : decode b_D_guess 90 = .ok (.lload 10, 2) := by decide +kernel
theorem d_D_guess_92 : decode b_D_guess 92 = .ok (.lload 4, 2) := by decide +kernel
theorem d_D_guess_94 : decode b_D_guess 94 = .ok (.lmul, 1) := by decide +kernel
theorem d_D_guess_95 : decode b_D_guess 95 = .ok (.ldc2_w 83, 3) := by decide +kernel
theorem d_D_guess_98 : decode b_D_guess 98 = .ok (.ladd, 1) := by decide +kernel
theorem d_D_guess_99 : decode b_D_guess 99 = .ok (.lload 12, 2) := by decide +kernel
theorem d_D_guess_101 : decode b_D_guess 101 = .ok (.bipush 32, 2) := by decide +kernel
theorem d_D_guess_103 : decode b_D_guess 103 = .ok (.lshl, 1) := by decide +kernel
theorem d_D_guess_104 : decode b_D_guess 104 = .ok (.lload 8, 2) := by decide +kernel
theorem d_D_guess_106 : decode b_D_guess 106 = .ok (.lor, 1) := by decide +kernel
theorem d_D_guess_107 : decode b_D_guess 107 = .ok (.ldc2_w 83, 3) := by decide +kernel
theorem d_D_guess_110 : decode b_D_guess 110 = .ok (.ladd, 1) := by decide +kernel
theorem d_D_guess_111 : decode b_D_guess 111 = .ok (.lcmp, 1) := by decide +kernel
theorem d_D_guess_112 : decode b_D_guess 112 = .ok (.ifCond .gt 6, 3) := by decide +kernel
theorem d_D_guess_115 : decode b_D_guess 115 = .ok (.goto 21, 3) := by decide +kernel
theorem d_D_guess_118 : decode b_D_guess 118 = .ok (.lload 10, 2) := by decide +kernel
theorem d_D_guess_120 : decode b_D_guess 120 = .ok (.lconst 1, 1) := by decide +kernel
theorem d_D_guess_121 : decode b_D_guess 121 = .ok (.lsub, 1) := by decide +kernel
theorem d_D_guess_122 : decode b_D_guess 122 = .ok (.lstore 10, 2) := by decide +kernel
theorem d_D_guess_124 : decode b_D_guess 124 = .ok (.lload 12, 2) := by decide +kernel
theorem d_D_guess_126 : decode b_D_guess 126 = .ok (.lload_n 2, 1) := by decide +kernel
theorem d_D_guess_127 : decode b_D_guess 127 = .ok (.ladd, 1) := by decide +kernel
theorem d_D_guess_128 : decode b_D_guess 128 = .ok (.lstore 12, 2) := by decide +kernel
theorem d_D_guess_130 : decode b_D_guess 130 = .ok (.iinc 14 1, 3) := by decide +kernel
theorem d_D_guess_133 : decode b_D_guess 133 = .ok (.goto (-58), 3) := by decide +kernel
theorem d_D_guess_136 : decode b_D_guess 136 = .ok (.lload 10, 2) := by decide +kernel
theorem d_D_guess_138 : decode b_D_guess 138 = .ok (.lreturn, 1) := by decide +kernel
theorem d_D_takeMultiple_0 : decode b_D_takeMultiple 0 = .ok (.lconst 0, 1) := by decide +kernel
theorem d_D_takeMultiple_1 : decode b_D_takeMultiple 1 = .ok (.lstore 5, 2) := by decide +kernel
theorem d_D_takeMultiple_3 : decode b_D_takeMultiple 3 = .ok (.iconst 0, 1) := by decide +kernel
theorem d_D_takeMultiple_4 : decode b_D_takeMultiple 4 = .ok (.istore 7, 2) := by decide +kernel
theorem d_D_takeMultiple_6 : decode b_D_takeMultiple 6 = .ok (.iload 7, 2) := by decide +kernel
theorem d_D_takeMultiple_8 : decode b_D_takeMultiple 8 = .ok (.aload_n 2, 1) := by decide +kernel
theorem d_D_takeMultiple_9 : decode b_D_takeMultiple 9 = .ok (.getfield 23, 3) := by decide +kernel
theorem d_D_takeMultiple_12 : decode b_D_takeMultiple 12 = .ok (.if_icmp .ge 78, 3) := by decide +kernel
theorem d_D_takeMultiple_15 : decode b_D_takeMultiple 15 = .ok (.lload 5, 2) := by decide +kernel
theorem d_D_takeMultiple_17 : decode b_D_takeMultiple 17 = .ok (.lload_n 3, 1) := by decide +kernel
theorem d_D_takeMultiple_18 : decode b_D_takeMultiple 18 = .ok (.aload_n 2, 1) := by decide +kernel
theorem d_D_takeMultiple_19 : decode b_D_takeMultiple 19 = .ok (.getfield 49, 3) := by decide +kernel
theorem d_D_takeMultiple_22 : decode b_D_takeMultiple 22 = .ok (.iload 7, 2) := by decide +kernel
theorem d_D_takeMultiple_24 : decode b_D_takeMultiple 24 = .ok (.iaload, 1) := by decide +kernel
theorem d_D_takeMultiple_25 : decode b_D_takeMultiple 25 = .ok (.i2l, 1) := by decide +kernel
theorem d_D_takeMultiple_26 : decode b_D_takeMultiple 26 = .ok (.ldc2_w 62, 3) := by decide +kernel
theorem d_D_takeMultiple_29 : decode b_D_takeMultiple 29 = .ok (.land, 1) := by decide +kernel
theorem d_D_takeMultiple_30 : decode b_D_takeMultiple 30 = .ok (.lmul, 1) := by decide +kernel
theorem d_D_takeMultiple_31 : decode b_D_takeMultiple 31 = .ok (.ladd, 1) := by decide +kernel
theorem d_D_takeMultiple_32 : decode b_D_takeMultiple 32 = .ok (.lstore 5, 2) := by decide +kernel
theorem d_D_takeMultiple_34 : decode b_D_takeMultiple 34 = .ok (.aload_n 0, 1) := by decide +kernel
theorem d_D_takeMultiple_35 : decode b_D_takeMultiple 35 = .ok (.iload_n 1, 1) := by decide +kernel
theorem d_D_takeMultiple_36 : decode b_D_takeMultiple 36 = .ok (.iload 7, 2) := by decide +kernel
theorem d_D_takeMultiple_38 : decode b_D_takeMultiple 38 = .ok (.iadd, 1) := by decide +kernel
theorem d_D_takeMultiple_39 : decode b_D_takeMultiple 39 = .ok (.iaload, 1) := by decide +kernel
theorem d_D_takeMultiple_40 : decode b_D_takeMultiple 40 = .ok (.i2l, 1) := by decide +kernel
theorem d_D_takeMultiple_41 : decode b_D_takeMultiple 41 = .ok (.ldc2_w 62, 3) := by decide +kernel
theorem d_D_takeMultiple_44 : decode b_D_takeMultiple 44 = .ok (.land, 1) := by decide +kernel
theorem d_D_takeMultiple_45 : decode b_D_takeMultiple 45 = .ok (.lload 5, 2) := by decide +kernel
theorem d_D_takeMultiple_47 : decode b_D_takeMultiple 47 = .ok (.ldc2_w 62, 3) := by decide +kernel
theorem d_D_takeMultiple_50 : decode b_D_takeMultiple 50 = .ok (.land, 1) := by decide +kernel
theorem d_D_takeMultiple_51 : decode b_D_takeMultiple 51 = .ok (.lsub, 1) := by decide +kernel
theorem d_D_takeMultiple_52 : decode b_D_takeMultiple 52 = .ok (.lstore 8, 2) := by decide +kernel
theorem d_D_takeMultiple_54 : decode b_D_takeMultiple 54 = .ok (.aload_n 0, 1) := by decide +kernel
theorem d_D_takeMultiple_55 : decode b_D_takeMultiple 55 = .ok (.iload_n 1, 1) := by decide +kernel
theorem d_D_takeMultiple_56 : decode b_D_takeMultiple 56 = .ok (.iload 7, 2) := by decide +kernel
theorem d_D_takeMultiple_58 : decode b_D_takeMultiple 58 = .ok (.iadd, 1) := by decide +kernel
theorem d_D_takeMultiple_59 : decode b_D_takeMultiple 59 = .ok (.lload 8, 2) := by decide +kernel
theorem d_D_takeMultiple_61 : decode b_D_takeMultiple 61 = .ok (.l2i, 1) := by decide +kernel
theorem d_D_takeMultiple_62 : decode b_D_takeMultiple 62 = .ok (.iastore, 1) := by decide +kernel
theorem d_D_takeMultiple_63 : decode b_D_takeMultiple 63 = .ok (.lload 5, 2) := by decide +kernel
theorem d_D_takeMultiple_65 : decode b_D_takeMultiple 65 = .ok (.bipush 32, 2) := by decide +kernel
theorem d_D_takeMultiple_67 : decode b_D_takeMultiple 67 = .ok (.lushr, 1) := by decide +kernel
theorem d_D_takeMultiple_68 : decode b_D_takeMultiple 68 = .ok (.lload 8, 2) := by decide +kernel
theorem d_D_takeMultiple_70 : decode b_D_takeMultiple 70 = .ok (.lconst 0, 1) := by decide +kernel
theorem d_D_takeMultiple_71 : decode b_D_takeMultiple 71 = .ok (.lcmp, 1) := by decide +kernel
theorem d_D_takeMultiple_72 : decode b_D_takeMultiple 72 = .ok (.ifCond .ge 7, 3) := by decide +kernel
theorem d_D_takeMultiple_75 : decode b_D_takeMultiple 75 = .ok (.iconst 1, 1) := by decide +kernel
theorem d_D_takeMultiple_76 : decode b_D_takeMultiple 76 = .ok (.goto 4, 3) := by decide +kernel
theorem d_D_takeMultiple_79 : decode b_D_takeMultiple 79 = .ok (.iconst 0, 1) := by decide +kernel
theorem d_D_takeMultiple_80 : decode b_D_takeMultiple 80 = .ok (.i2l, 1) := by decide +kernel
theorem d_D_takeMultiple_81 : decode b_D_takeMultiple 81 = .ok (.ladd, 1) := by decide +kernel
theorem d_D_takeMultiple_82 : decode b_D_takeMultiple 82 = .ok (.lstore 5, 2) := by decide +kernel
theorem d_D_takeMultiple_84 : decode b_D_takeMultiple 84 = .ok (.iinc 7 1, 3) := by decide +kernel
theorem d_D_takeMultiple_87 : decode b_D_takeMultiple 87 = .ok (.goto (-81), 3) := by decide +kernel
theorem d_D_takeMultiple_90 : decode b_D_takeMultiple 90 = .ok (.aload_n 0, 1) := by decide +kernel
theorem d_D_takeMultiple_91 : decode b_D_takeMultiple 91 = .ok (.iload_n 1, 1) := by decide +kernel
theorem d_D_takeMultiple_92 : decode b_D_takeMultiple 92 = .ok (.aload_n 2, 1) := by decide +kernel
theorem d_D_takeMultiple_93 : decode b_D_takeMultiple 93 = .ok (.getfield 23, 3) := by decide +kernel
theorem d_D_takeMultiple_96 : decode b_D_takeMultiple 96 = .ok (.iadd, 1) := by decide +kernel
theorem d_D_takeMultiple_97 : decode b_D_takeMultiple 97 = .ok (.iaload, 1) := by decide +kernel
theorem d_D_takeMultiple_98 : decode b_D_takeMultiple 98 = .ok (.i2l, 1) := by decide +kernel
theorem d_D_takeMultiple_99 : decode b_D_takeMultiple 99 = .ok (.ldc2_w 62, 3) := by decide +kernel
theorem d_D_takeMultiple_102 : decode b_D_takeMultiple 102 = .ok (.land, 1) := by decide +kernel
theorem d_D_takeMultiple_103 : decode b_D_takeMultiple 103 = .ok (.lload 5, 2) := by decide +kernel
theorem d_D_takeMultiple_105 : decode b_D_takeMultiple 105 = .ok (.lcmp, 1) := by decide +kernel
theorem d_D_takeMultiple_106 : decode b_D_takeMultiple 106 = .ok (.ifCond .ge 7, 3) := by decide +kernel
theorem d_D_takeMultiple_109 : decode b_D_takeMultiple 109 = .ok (.iconst 1, 1) := by decide +kernel
theorem d_D_takeMultiple_110 : decode b_D_takeMultiple 110 = .ok (.goto 4, 3) := by decide +kernel
theorem d_D_takeMultiple_113 : decode b_D_takeMultiple 113 = .ok (.iconst 0, 1) := by decide +kernel
theorem d_D_takeMultiple_114 : decode b_D_takeMultiple 114 = .ok (.ireturn, 1) := by decide +kernel
theorem d_D_putBack_0 : decode b_D_putBack 0 = .ok (.lconst 0, 1) := by decide +kernel
theorem d_D_putBack_1 : decode b_D_putBack 1 = .ok (.lstore_n 3, 1) := by decide +kernel
theorem d_D_putBack_2 : decode b_D_putBack 2 = .ok (.iconst 0, 1) := by decide +kernel
theorem d_D_putBack_3 : decode b_D_putBack 3 = .ok (.istore 5, 2) := by decide +kernel
theorem d_D_putBack_5 : decode b_D_putBack 5 = .ok (.iload 5, 2) := by decide +kernel
theorem d_D_putBack_7 : decode b_D_putBack 7 = .ok (.aload_n 2, 1) := by decide +kernel
theorem d_D_putBack_8 : decode b_D_putBack 8 = .ok (.getfield 23, 3) := by decide +kernel
theorem d_D_putBack_11 : decode b_D_putBack 11 = .ok (.if_icmp .ge 49, 3) := by decide +kernel
theorem d_D_putBack_14 : decode b_D_putBack 14 = .ok (.lload_n 3, 1) := by decide +kernel
theorem d_D_putBack_15 : decode b_D_putBack 15 = .ok (.aload_n 0, 1) := by decide +kernel
theorem d_D_putBack_16 : decode b_D_putBack 16 = .ok (.iload_n 1, 1) := by decide +kernel
theorem d_D_putBack_17 : decode b_D_putBack 17 = .ok (.iload 5, 2) := by decide +kernel
theorem d_D_putBack_19 : decode b_D_putBack 19 = .ok (.iadd, 1) := by decide +kernel
theorem d_D_putBack_20 : decode b_D_putBack 20 = .ok (.iaload, 1) := by decide +kernel
theorem d_D_putBack_21 : decode b_D_putBack 21 = .ok (.i2l, 1) := by decide +kernel
theorem d_D_putBack_22 : decode b_D_putBack 22 = .ok (.ldc2_w 62, 3) := by decide +kernel
theorem d_D_putBack_25 : decode b_D_putBack 25 = .ok (.land, 1) := by decide +kernel
theorem d_D_putBack_26 : decode b_D_putBack 26 = .ok (.aload_n 2, 1) := by decide +kernel
theorem d_D_putBack_27 : decode b_D_putBack 27 = .ok (.getfield 49, 3) := by decide +kernel
theorem d_D_putBack_30 : decode b_D_putBack 30 = .ok (.iload 5, 2) := by decide +kernel
theorem d_D_putBack_32 : decode b_D_putBack 32 = .ok (.iaload, 1) := by decide +kernel
theorem d_D_putBack_33 : decode b_D_putBack 33 = .ok (.i2l, 1) := by decide +kernel
theorem d_D_putBack_34 : decode b_D_putBack 34 = .ok (.ldc2_w 62, 3) := by decide +kernel
theorem d_D_putBack_37 : decode b_D_putBack 37 = .ok (.land, 1) := by decide +kernel
theorem d_D_putBack_38 : decode b_D_putBack 38 = .ok (.ladd, 1) := by decide +kernel
theorem d_D_putBack_39 : decode b_D_putBack 39 = .ok (.ladd, 1) := by decide +kernel
theorem d_D_putBack_40 : decode b_D_putBack 40 = .ok (.lstore_n 3, 1) := by decide +kernel
theorem d_D_putBack_41 : decode b_D_putBack 41 = .ok (.aload_n 0, 1) := by decide +kernel
theorem d_D_putBack_42 : decode b_D_putBack 42 = .ok (.iload_n 1, 1) := by decide +kernel
theorem d_D_putBack_43 : decode b_D_putBack 43 = .ok (.iload 5, 2) := by decide +kernel
theorem d_D_putBack_45 : decode b_D_putBack 45 = .ok (.iadd, 1) := by decide +kernel
theorem d_D_putBack_46 : decode b_D_putBack 46 = .ok (.lload_n 3, 1) := by decide +kernel
theorem d_D_putBack_47 : decode b_D_putBack 47 = .ok (.l2i, 1) := by decide +kernel
theorem d_D_putBack_48 : decode b_D_putBack 48 = .ok (.iastore, 1) := by decide +kernel
theorem d_D_putBack_49 : decode b_D_putBack 49 = .ok (.lload_n 3, 1) := by decide +kernel
theorem d_D_putBack_50 : decode b_D_putBack 50 = .ok (.bipush 32, 2) := by decide +kernel
theorem d_D_putBack_52 : decode b_D_putBack 52 = .ok (.lushr, 1) := by decide +kernel
theorem d_D_putBack_53 : decode b_D_putBack 53 = .ok (.lstore_n 3, 1) := by decide +kernel
theorem d_D_putBack_54 : decode b_D_putBack 54 = .ok (.iinc 5 1, 3) := by decide +kernel
theorem d_D_putBack_57 : decode b_D_putBack 57 = .ok (.goto (-52), 3) := by decide +kernel
theorem d_D_putBack_60 : decode b_D_putBack 60 = .ok (.return_, 1) := by decide +kernel
theorem d_D_unsigned_0 : decode b_D_unsigned 0 = .ok (.lload_n 2, 1) := by decide +kernel
theorem d_D_unsigned_1 : decode b_D_unsigned 1 = .ok (.lconst 0, 1) := by decide +kernel
theorem d_D_unsigned_2 : decode b_D_unsigned 2 = .ok (.lcmp, 1) := by decide +kernel
theorem d_D_unsigned_3 : decode b_D_unsigned 3 = .ok (.ifCond .gt 5, 3) := by decide +kernel
theorem d_D_unsigned_6 : decode b_D_unsigned 6 = .ok (.lconst 0, 1) := by decide +kernel
theorem d_D_unsigned_7 : decode b_D_unsigned 7 = .ok (.lreturn, 1) := by decide +kernel
theorem d_D_unsigned_8 : decode b_D_unsigned 8 = .ok (.lload_n 0, 1) := by decide +kernel
theorem d_D_unsigned_9 : decode b_D_unsigned 9 = .ok (.lconst 0, 1) := by decide +kernel
theorem d_D_unsigned_10 : decode b_D_unsigned 10 = .ok (.lcmp, 1) := by decide +kernel
theorem d_D_unsigned_11 : decode b_D_unsigned 11 = .ok (.ifCond .lt 7, 3) := by decide +kernel
theorem d_D_unsigned_14 : decode b_D_unsigned 14 = .ok (.lload_n 0, 1) := by decide +kernel
theorem d_D_unsigned_15 : decode b_D_unsigned 15 = .ok (.lload_n 2, 1) := by decide +kernel
theorem d_D_unsigned_16 : decode b_D_unsigned 16 = .ok (.ldiv, 1) := by decide +kernel
theorem d_D_unsigned_17 : decode b_D_unsigned 17 = .ok (.lreturn, 1) := by decide +kernel
theorem d_D_unsigned_18 : decode b_D_unsigned 18 = .ok (.lload_n 0, 1) := by decide +kernel
theorem d_D_unsigned_19 : decode b_D_unsigned 19 = .ok (.iconst 1, 1) := by decide +kernel
theorem d_D_unsigned_20 : decode b_D_unsigned 20 = .ok (.lushr, 1) := by decide +kernel
theorem d_D_unsigned_21 : decode b_D_unsigned 21 = .ok (.lload_n 2, 1) := by decide +kernel
theorem d_D_unsigned_22 : decode b_D_unsigned 22 = .ok (.ldiv, 1) := by decide +kernel
theorem d_D_unsigned_23 : decode b_D_unsigned 23 = .ok (.iconst 1, 1) := by decide +kernel
theorem d_D_unsigned_24 : decode b_D_unsigned 24 = .ok (.lshl, 1) := by decide +kernel
theorem d_D_unsigned_25 : decode b_D_unsigned 25 = .ok (.lstore 4, 2) := by decide +kernel
theorem d_D_unsigned_27 : decode b_D_unsigned 27 = .ok (.lload_n 0, 1) := by decide +kernel
theorem d_D_unsigned_28 : decode b_D_unsigned 28 = .ok (.lload 4, 2) := by decide +kernel
theorem d_D_unsigned_30 : decode b_D_unsigned 30 = .ok (.lload_n 2, 1) := by decide +kernel
theorem d_D_unsigned_31 : decode b_D_unsigned 31 = .ok (.lmul, 1) := by decide +kernel
theorem d_D_unsigned_32 : decode b_D_unsigned 32 = .ok (.lsub, 1) := by decide +kernel
theorem d_D_unsigned_33 : decode b_D_unsigned 33 = .ok (.lload_n 2, 1) := by decide +kernel
theorem d_D_unsigned_34 : decode b_D_unsigned 34 = .ok (.lcmp, 1) := by decide +kernel
theorem d_D_unsigned_35 : decode b_D_unsigned 35 = .ok (.ifCond .lt 10, 3) := by decide +kernel
theorem d_D_unsigned_38 : decode b_D_unsigned 38 = .ok (.lload 4, 2) := by decide +kernel
theorem d_D_unsigned_40 : decode b_D_unsigned 40 = .ok (.lconst 1, 1) := by decide +kernel
theorem d_D_unsigned_41 : decode b_D_unsigned 41 = .ok (.ladd, 1) := by decide +kernel
theorem d_D_unsigned_42 : decode b_D_unsigned 42 = .ok (.goto 5, 3) := by decide +kernel
theorem d_D_unsigned_45 : decode b_D_unsigned 45 = .ok (.lload 4, 2) := by decide +kernel
theorem d_D_unsigned_47 : decode b_D_unsigned 47 = .ok (.lreturn, 1) := by decide +kernel
