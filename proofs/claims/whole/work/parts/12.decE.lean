theorem d_E_init_0 : decode b_E_init 0 = .ok (.aload_n 0, 1) := by decide +kernel
theorem d_E_init_1 : decode b_E_init 1 = .ok (.invokespecial 3, 3) := by decide +kernel
theorem d_E_init_4 : decode b_E_init 4 = .ok (.aload_n 0, 1) := by decide +kernel
theorem d_E_init_5 : decode b_E_init 5 = .ok (.lconst 1, 1) := by decide +kernel
theorem d_E_init_6 : decode b_E_init 6 = .ok (.putfield 9, 3) := by decide +kernel
theorem d_E_init_9 : decode b_E_init 9 = .ok (.aload_n 0, 1) := by decide +kernel
theorem d_E_init_10 : decode b_E_init 10 = .ok (.lconst 0, 1) := by decide +kernel
theorem d_E_init_11 : decode b_E_init 11 = .ok (.putfield 15, 3) := by decide +kernel
theorem d_E_init_14 : decode b_E_init 14 = .ok (.aload_n 0, 1) := by decide +kernel
theorem d_E_init_15 : decode b_E_init 15 = .ok (.lconst 0, 1) := by decide +kernel
theorem d_E_init_16 : decode b_E_init 16 = .ok (.putfield 18, 3) := by decide +kernel
theorem d_E_init_19 : decode b_E_init 19 = .ok (.aload_n 0, 1) := by decide +kernel
theorem d_E_init_20 : decode b_E_init 20 = .ok (.lconst 1, 1) := by decide +kernel
theorem d_E_init_21 : decode b_E_init 21 = .ok (.putfield 21, 3) := by decide +kernel
theorem d_E_init_24 : decode b_E_init 24 = .ok (.return_, 1) := by decide +kernel
theorem d_E_greatest_0 : decode b_E_greatest 0 = .ok (.aload_n 1, 1) := by decide +kernel
theorem d_E_greatest_1 : decode b_E_greatest 1 = .ok (.aload_n 2, 1) := by decide +kernel
theorem d_E_greatest_2 : decode b_E_greatest 2 = .ok (.invokevirtual 24, 3) := by decide +kernel
theorem d_E_greatest_5 : decode b_E_greatest 5 = .ok (.ifCond .lt 7, 3) := by decide +kernel
theorem d_E_greatest_8 : decode b_E_greatest 8 = .ok (.iconst 1, 1) := by decide +kernel
theorem d_E_greatest_9 : decode b_E_greatest 9 = .ok (.goto 4, 3) := by decide +kernel
theorem d_E_greatest_12 : decode b_E_greatest 12 = .ok (.iconst 0, 1) := by decide +kernel
theorem d_E_greatest_13 : decode b_E_greatest 13 = .ok (.istore 4, 2) := by decide +kernel
theorem d_E_greatest_15 : decode b_E_greatest 15 = .ok (.iload 4, 2) := by decide +kernel
theorem d_E_greatest_17 : decode b_E_greatest 17 = .ok (.ifCond .eq 7, 3) := by decide +kernel
theorem d_E_greatest_20 : decode b_E_greatest 20 = .ok (.aload_n 1, 1) := by decide +kernel
theorem d_E_greatest_21 : decode b_E_greatest 21 = .ok (.goto 4, 3) := by decide +kernel
theorem d_E_greatest_24 : decode b_E_greatest 24 = .ok (.aload_n 2, 1) := by decide +kernel
theorem d_E_greatest_25 : decode b_E_greatest 25 = .ok (.astore 5, 2) := by decide +kernel
theorem d_E_greatest_27 : decode b_E_greatest 27 = .ok (.iload 4, 2) := by decide +kernel
theorem d_E_greatest_29 : decode b_E_greatest 29 = .ok (.ifCond .eq 7, 3) := by decide +kernel
theorem d_E_greatest_32 : decode b_E_greatest 32 = .ok (.aload_n 2, 1) := by decide +kernel
theorem d_E_greatest_33 : decode b_E_greatest 33 = .ok (.goto 4, 3) := by decide +kernel
theorem d_E_greatest_36 : decode b_E_greatest 36 = .ok (.aload_n 1, 1) := by decide +kernel
theorem d_E_greatest_37 : decode b_E_greatest 37 = .ok (.astore 6, 2) := by decide +kernel
theorem d_E_greatest_39 : decode b_E_greatest 39 = .ok (.iconst 0, 1) := by decide +kernel
theorem d_E_greatest_40 : decode b_E_greatest 40 = .ok (.istore 7, 2) := by decide +kernel
theorem d_E_greatest_42 : decode b_E_greatest 42 = .ok (.iload 7, 2) := by decide +kernel
theorem d_E_greatest_44 : decode b_E_greatest 44 = .ok (.ldc 30, 2) := by decide +kernel
theorem d_E_greatest_46 : decode b_E_greatest 46 = .ok (.if_icmp .ge 89, 3) := by decide +kernel
theorem d_E_greatest_49 : decode b_E_greatest 49 = .ok (.aload 6, 2) := by decide +kernel
theorem d_E_greatest_51 : decode b_E_greatest 51 = .ok (.getfield 31, 3) := by decide +kernel
theorem d_E_greatest_54 : decode b_E_greatest 54 = .ok (.ifCond .le 81, 3) := by decide +kernel
theorem d_E_greatest_57 : decode b_E_greatest 57 = .ok (.aload 5, 2) := by decide +kernel
theorem d_E_greatest_59 : decode b_E_greatest 59 = .ok (.invokevirtual 35, 3) := by decide +kernel
theorem d_E_greatest_62 : decode b_E_greatest 62 = .ok (.bipush 62, 2) := by decide +kernel
theorem d_E_greatest_64 : decode b_E_greatest 64 = .ok (.isub, 1) := by decide +kernel
theorem d_E_greatest_65 : decode b_E_greatest 65 = .ok (.iconst 0, 1) := by decide +kernel
theorem d_E_greatest_66 : decode b_E_greatest 66 = .ok (.invokestatic 39, 3) := by decide +kernel
theorem d_E_greatest_69 : decode b_E_greatest 69 = .ok (.istore 8, 2) := by decide +kernel
theorem d_E_greatest_71 : decode b_E_greatest 71 = .ok (.aload_n 0, 1) := by decide +kernel
theorem d_E_greatest_72 : decode b_E_greatest 72 = .ok (.aload 5, 2) := by decide +kernel
theorem d_E_greatest_74 : decode b_E_greatest 74 = .ok (.iload 8, 2) := by decide +kernel
theorem d_E_greatest_76 : decode b_E_greatest 76 = .ok (.invokevirtual 45, 3) := by decide +kernel
theorem d_E_greatest_79 : decode b_E_greatest 79 = .ok (.aload 6, 2) := by decide +kernel
theorem d_E_greatest_81 : decode b_E_greatest 81 = .ok (.iload 8, 2) := by decide +kernel
theorem d_E_greatest_83 : decode b_E_greatest 83 = .ok (.invokevirtual 45, 3) := by decide +kernel
theorem d_E_greatest_86 : decode b_E_greatest 86 = .ok (.invokevirtual 49, 3) := by decide +kernel
theorem d_E_greatest_89 : decode b_E_greatest 89 = .ok (.aload_n 0, 1) := by decide +kernel
theorem d_E_greatest_90 : decode b_E_greatest 90 = .ok (.getfield 15, 3) := by decide +kernel
theorem d_E_greatest_93 : decode b_E_greatest 93 = .ok (.lconst 0, 1) := by decide +kernel
theorem d_E_greatest_94 : decode b_E_greatest 94 = .ok (.lcmp, 1) := by decide +kernel
theorem d_E_greatest_95 : decode b_E_greatest 95 = .ok (.ifCond .eq 14, 3) := by decide +kernel
theorem d_E_greatest_98 : decode b_E_greatest 98 = .ok (.aload_n 0, 1) := by decide +kernel
theorem d_E_greatest_99 : decode b_E_greatest 99 = .ok (.aload 5, 2) := by decide +kernel
theorem d_E_greatest_101 : decode b_E_greatest 101 = .ok (.aload 6, 2) := by decide +kernel
theorem d_E_greatest_103 : decode b_E_greatest 103 = .ok (.invokevirtual 53, 3) := by decide +kernel
theorem d_E_greatest_106 : decode b_E_greatest 106 = .ok (.goto 23, 3) := by decide +kernel
theorem d_E_greatest_109 : decode b_E_greatest 109 = .ok (.aload 5, 2) := by decide +kernel
theorem d_E_greatest_111 : decode b_E_greatest 111 = .ok (.aload 6, 2) := by decide +kernel
theorem d_E_greatest_113 : decode b_E_greatest 113 = .ok (.aload_n 3, 1) := by decide +kernel
theorem d_E_greatest_114 : decode b_E_greatest 114 = .ok (.invokestatic 57, 3) := by decide +kernel
theorem d_E_greatest_117 : decode b_E_greatest 117 = .ok (.aload 5, 2) := by decide +kernel
theorem d_E_greatest_119 : decode b_E_greatest 119 = .ok (.astore 9, 2) := by decide +kernel
theorem d_E_greatest_121 : decode b_E_greatest 121 = .ok (.aload 6, 2) := by decide +kernel
theorem d_E_greatest_123 : decode b_E_greatest 123 = .ok (.astore 5, 2) := by decide +kernel
theorem d_E_greatest_125 : decode b_E_greatest 125 = .ok (.aload 9, 2) := by decide +kernel
theorem d_E_greatest_127 : decode b_E_greatest 127 = .ok (.astore 6, 2) := by decide +kernel
theorem d_E_greatest_129 : decode b_E_greatest 129 = .ok (.iinc 7 1, 3) := by decide +kernel
theorem d_E_greatest_132 : decode b_E_greatest 132 = .ok (.goto (-90), 3) := by decide +kernel
theorem d_E_greatest_135 : decode b_E_greatest 135 = .ok (.aload 5, 2) := by decide +kernel
theorem d_E_greatest_137 : decode b_E_greatest 137 = .ok (.iconst 0, 1) := by decide +kernel
theorem d_E_greatest_138 : decode b_E_greatest 138 = .ok (.putfield 63, 3) := by decide +kernel
theorem d_E_greatest_141 : decode b_E_greatest 141 = .ok (.aload 5, 2) := by decide +kernel
theorem d_E_greatest_143 : decode b_E_greatest 143 = .ok (.areturn, 1) := by decide +kernel
theorem d_E_foresee_0 : decode b_E_foresee 0 = .ok (.lload_n 1, 1) := by decide +kernel
theorem d_E_foresee_1 : decode b_E_foresee 1 = .ok (.lstore 5, 2) := by decide +kernel
theorem d_E_foresee_3 : decode b_E_foresee 3 = .ok (.lload_n 3, 1) := by decide +kernel
theorem d_E_foresee_4 : decode b_E_foresee 4 = .ok (.lstore 7, 2) := by decide +kernel
theorem d_E_foresee_6 : decode b_E_foresee 6 = .ok (.aload_n 0, 1) := by decide +kernel
theorem d_E_foresee_7 : decode b_E_foresee 7 = .ok (.lconst 1, 1) := by decide +kernel
theorem d_E_foresee_8 : decode b_E_foresee 8 = .ok (.putfield 9, 3) := by decide +kernel
theorem d_E_foresee_11 : decode b_E_foresee 11 = .ok (.aload_n 0, 1) := by decide +kernel
theorem d_E_foresee_12 : decode b_E_foresee 12 = .ok (.lconst 0, 1) := by decide +kernel
theorem d_E_foresee_13 : decode b_E_foresee 13 = .ok (.putfield 15, 3) := by decide +kernel
theorem d_E_foresee_16 : decode b_E_foresee 16 = .ok (.aload_n 0, 1) := by decide +kernel
theorem d_E_foresee_17 : decode b_E_foresee 17 = .ok (.lconst 0, 1) := by decide +kernel
theorem d_E_foresee_18 : decode b_E_foresee 18 = .ok (.putfield 18, 3) := by decide +kernel
theorem d_E_foresee_21 : decode b_E_foresee 21 = .ok (.aload_n 0, 1) := by decide +kernel
theorem d_E_foresee_22 : decode b_E_foresee 22 = .ok (.lconst 1, 1) := by decide +kernel
theorem d_E_foresee_23 : decode b_E_foresee 23 = .ok (.putfield 21, 3) := by decide +kernel
theorem d_E_foresee_26 : decode b_E_foresee 26 = .ok (.iconst 0, 1) := by decide +kernel
theorem d_E_foresee_27 : decode b_E_foresee 27 = .ok (.istore 9, 2) := by decide +kernel
theorem d_E_foresee_29 : decode b_E_foresee 29 = .ok (.iload 9, 2) := by decide +kernel
theorem d_E_foresee_31 : decode b_E_foresee 31 = .ok (.bipush 62, 2) := by decide +kernel
theorem d_E_foresee_33 : decode b_E_foresee 33 = .ok (.if_icmp .ge 187, 3) := by decide +kernel
theorem d_E_foresee_36 : decode b_E_foresee 36 = .ok (.lload 7, 2) := by decide +kernel
theorem d_E_foresee_38 : decode b_E_foresee 38 = .ok (.aload_n 0, 1) := by decide +kernel
theorem d_E_foresee_39 : decode b_E_foresee 39 = .ok (.getfield 18, 3) := by decide +kernel
theorem d_E_foresee_42 : decode b_E_foresee 42 = .ok (.ladd, 1) := by decide +kernel
theorem d_E_foresee_43 : decode b_E_foresee 43 = .ok (.lconst 0, 1) := by decide +kernel
theorem d_E_foresee_44 : decode b_E_foresee 44 = .ok (.lcmp, 1) := by decide +kernel
theorem d_E_foresee_45 : decode b_E_foresee 45 = .ok (.ifCond .le 175, 3) := by decide +kernel
theorem d_E_foresee_48 : decode b_E_foresee 48 = .ok (.lload 7, 2) := by decide +kernel
theorem d_E_foresee_50 : decode b_E_foresee 50 = .ok (.aload_n 0, 1) := by decide +kernel
theorem d_E_foresee_51 : decode b_E_foresee 51 = .ok (.getfield 21, 3) := by decide +kernel
theorem d_E_foresee_54 : decode b_E_foresee 54 = .ok (.ladd, 1) := by decide +kernel
theorem d_E_foresee_55 : decode b_E_foresee 55 = .ok (.lconst 0, 1) := by decide +kernel
theorem d_E_foresee_56 : decode b_E_foresee 56 = .ok (.lcmp, 1) := by decide +kernel
theorem d_E_foresee_57 : decode b_E_foresee 57 = .ok (.ifCond .gt 6, 3) := by decide +kernel
theorem d_E_foresee_60 : decode b_E_foresee 60 = .ok (.goto 160, 3) := by decide +kernel
theorem d_E_foresee_63 : decode b_E_foresee 63 = .ok (.lload 5, 2) := by decide +kernel
theorem d_E_foresee_65 : decode b_E_foresee 65 = .ok (.aload_n 0, 1) := by decide +kernel
theorem d_E_foresee_66 : decode b_E_foresee 66 = .ok (.getfield 9, 3) := by decide +kernel
theorem d_E_foresee_69 : decode b_E_foresee 69 = .ok (.ladd, 1) := by decide +kernel
theorem d_E_foresee_70 : decode b_E_foresee 70 = .ok (.lload 7, 2) := by decide +kernel
theorem d_E_foresee_72 : decode b_E_foresee 72 = .ok (.aload_n 0, 1) := by decide +kernel
theorem d_E_foresee_73 : decode b_E_foresee 73 = .ok (.getfield 18, 3) := by decide +kernel
theorem d_E_foresee_76 : decode b_E_foresee 76 = .ok (.ladd, 1) := by decide +kernel
theorem d_E_foresee_77 : decode b_E_foresee 77 = .ok (.ldiv, 1) := by decide +kernel
theorem d_E_foresee_78 : decode b_E_foresee 78 = .ok (.lstore 10, 2) := by decide +kernel
theorem d_E_foresee_80 : decode b_E_foresee 80 = .ok (.lload 10, 2) := by decide +kernel
theorem d_E_foresee_82 : decode b_E_foresee 82 = .ok (.lload 5, 2) := by decide +kernel
theorem d_E_foresee_84 : decode b_E_foresee 84 = .ok (.aload_n 0, 1) := by decide +kernel
theorem d_E_foresee_85 : decode b_E_foresee 85 = .ok (.getfield 15, 3) := by decide +kernel
theorem d_E_foresee_88 : decode b_E_foresee 88 = .ok (.ladd, 1) := by decide +kernel
theorem d_E_foresee_89 : decode b_E_foresee 89 = .ok (.lload 7, 2) := by decide +kernel
theorem d_E_foresee_91 : decode b_E_foresee 91 = .ok (.aload_n 0, 1) := by decide +kernel
theorem d_E_foresee_92 : decode b_E_foresee 92 = .ok (.getfield 21, 3) := by decide +kernel
theorem d_E_foresee_95 : decode b_E_foresee 95 = .ok (.ladd, 1) := by decide +kernel
theorem d_E_foresee_96 : decode b_E_foresee 96 = .ok (.ldiv, 1) := by decide +kernel
theorem d_E_foresee_97 : decode b_E_foresee 97 = .ok (.lcmp, 1) := by decide +kernel
theorem d_E_foresee_98 : decode b_E_foresee 98 = .ok (.ifCond .ne 122, 3) := by decide +kernel
theorem d_E_foresee_101 : decode b_E_foresee 101 = .ok (.lload 10, 2) := by decide +kernel
theorem d_E_foresee_103 : decode b_E_foresee 103 = .ok (.ldc2_w 67, 3) := by decide +kernel
theorem d_E_foresee_106 : decode b_E_foresee 106 = .ok (.lcmp, 1) := by decide +kernel
theorem d_E_foresee_107 : decode b_E_foresee 107 = .ok (.ifCond .le 6, 3) := by decide +kernel
theorem d_E_foresee_110 : decode b_E_foresee 110 = .ok (.goto 110, 3) := by decide +kernel
theorem d_E_foresee_113 : decode b_E_foresee 113 = .ok (.aload_n 0, 1) := by decide +kernel
theorem d_E_foresee_114 : decode b_E_foresee 114 = .ok (.getfield 9, 3) := by decide +kernel
theorem d_E_foresee_117 : decode b_E_foresee 117 = .ok (.lload 10, 2) := by decide +kernel
theorem d_E_foresee_119 : decode b_E_foresee 119 = .ok (.aload_n 0, 1) := by decide +kernel
theorem d_E_foresee_120 : decode b_E_foresee 120 = .ok (.getfield 18, 3) := by decide +kernel
theorem d_E_foresee_123 : decode b_E_foresee 123 = .ok (.lmul, 1) := by decide +kernel
theorem d_E_foresee_124 : decode b_E_foresee 124 = .ok (.lsub, 1) := by decide +kernel
theorem d_E_foresee_125 : decode b_E_foresee 125 = .ok (.lstore 12, 2) := by decide +kernel
theorem d_E_foresee_127 : decode b_E_foresee 127 = .ok (.aload_n 0, 1) := by decide +kernel
theorem d_E_foresee_128 : decode b_E_foresee 128 = .ok (.getfield 15, 3) := by decide +kernel
theorem d_E_foresee_131 : decode b_E_foresee 131 = .ok (.lload 10, 2) := by decide +kernel
theorem d_E_foresee_133 : decode b_E_foresee 133 = .ok (.aload_n 0, 1) := by decide +kernel
theorem d_E_foresee_134 : decode b_E_foresee 134 = .ok (.getfield 21, 3) := by decide +kernel
theorem d_E_foresee_137 : decode b_E_foresee 137 = .ok (.lmul, 1) := by decide +kernel
theorem d_E_foresee_138 : decode b_E_foresee 138 = .ok (.lsub, 1) := by decide +kernel
theorem d_E_foresee_139 : decode b_E_foresee 139 = .ok (.lstore 14, 2) := by decide +kernel
theorem d_E_foresee_141 : decode b_E_foresee 141 = .ok (.lload 12, 2) := by decide +kernel
theorem d_E_foresee_143 : decode b_E_foresee 143 = .ok (.invokestatic 69, 3) := by decide +kernel
theorem d_E_foresee_146 : decode b_E_foresee 146 = .ok (.ldc2_w 67, 3) := by decide +kernel
theorem d_E_foresee_149 : decode b_E_foresee 149 = .ok (.lcmp, 1) := by decide +kernel
theorem d_E_foresee_150 : decode b_E_foresee 150 = .ok (.ifCond .gt 70, 3) := by decide +kernel
theorem d_E_foresee_153 : decode b_E_foresee 153 = .ok (.lload 14, 2) := by decide +kernel
theorem d_E_foresee_155 : decode b_E_foresee 155 = .ok (.invokestatic 69, 3) := by decide +kernel
theorem d_E_foresee_158 : decode b_E_foresee 158 = .ok (.ldc2_w 67, 3) := by decide +kernel
theorem d_E_foresee_161 : decode b_E_foresee 161 = .ok (.lcmp, 1) := by decide +kernel
theorem d_E_foresee_162 : decode b_E_foresee 162 = .ok (.ifCond .le 6, 3) := by decide +kernel
theorem d_E_foresee_165 : decode b_E_foresee 165 = .ok (.goto 55, 3) := by decide +kernel
theorem d_E_foresee_168 : decode b_E_foresee 168 = .ok (.lload 5, 2) := by decide +kernel
theorem d_E_foresee_170 : decode b_E_foresee 170 = .ok (.lload 10, 2) := by decide +kernel
theorem d_E_foresee_172 : decode b_E_foresee 172 = .ok (.lload 7, 2) := by decide +kernel
theorem d_E_foresee_174 : decode b_E_foresee 174 = .ok (.lmul, 1) := by decide +kernel
theorem d_E_foresee_175 : decode b_E_foresee 175 = .ok (.lsub, 1) := by decide +kernel
theorem d_E_foresee_176 : decode b_E_foresee 176 = .ok (.lstore 16, 2) := by decide +kernel
theorem d_E_foresee_178 : decode b_E_foresee 178 = .ok (.aload_n 0, 1) := by decide +kernel
theorem d_E_foresee_179 : decode b_E_foresee 179 = .ok (.aload_n 0, 1) := by decide +kernel
theorem d_E_foresee_180 : decode b_E_foresee 180 = .ok (.getfield 18, 3) := by decide +kernel
theorem d_E_foresee_183 : decode b_E_foresee 183 = .ok (.putfield 9, 3) := by decide +kernel
theorem d_E_foresee_186 : decode b_E_foresee 186 = .ok (.aload_n 0, 1) := by decide +kernel
theorem d_E_foresee_187 : decode b_E_foresee 187 = .ok (.aload_n 0, 1) := by decide +kernel
theorem d_E_foresee_188 : decode b_E_foresee 188 = .ok (.getfield 21, 3) := by decide +kernel
theorem d_E_foresee_191 : decode b_E_foresee 191 = .ok (.putfield 15, 3) := by decide +kernel
theorem d_E_foresee_194 : decode b_E_foresee 194 = .ok (.lload 7, 2) := by decide +kernel
theorem d_E_foresee_196 : decode b_E_foresee 196 = .ok (.lstore 5, 2) := by decide +kernel
theorem d_E_foresee_198 : decode b_E_foresee 198 = .ok (.aload_n 0, 1) := by decide +kernel
theorem d_E_foresee_199 : decode b_E_foresee 199 = .ok (.lload 12, 2) := by decide +kernel
theorem d_E_foresee_201 : decode b_E_foresee 201 = .ok (.putfield 18, 3) := by decide +kernel
theorem d_E_foresee_204 : decode b_E_foresee 204 = .ok (.aload_n 0, 1) := by decide +kernel
theorem d_E_foresee_205 : decode b_E_foresee 205 = .ok (.lload 14, 2) := by decide +kernel
theorem d_E_foresee_207 : decode b_E_foresee 207 = .ok (.putfield 21, 3) := by decide +kernel
theorem d_E_foresee_210 : decode b_E_foresee 210 = .ok (.lload 16, 2) := by decide +kernel
theorem d_E_foresee_212 : decode b_E_foresee 212 = .ok (.lstore 7, 2) := by decide +kernel
theorem d_E_foresee_214 : decode b_E_foresee 214 = .ok (.iinc 9 1, 3) := by decide +kernel
theorem d_E_foresee_217 : decode b_E_foresee 217 = .ok (.goto (-188), 3) := by decide +kernel
theorem d_E_foresee_220 : decode b_E_foresee 220 = .ok (.return_, 1) := by decide +kernel
theorem d_E_follow_0 : decode b_E_follow 0 = .ok (.aload_n 1, 1) := by decide +kernel
theorem d_E_follow_1 : decode b_E_follow 1 = .ok (.getfield 31, 3) := by decide +kernel
theorem d_E_follow_4 : decode b_E_follow 4 = .ok (.istore_n 3, 1) := by decide +kernel
theorem d_E_follow_5 : decode b_E_follow 5 = .ok (.aload_n 2, 1) := by decide +kernel
theorem d_E_follow_6 : decode b_E_follow 6 = .ok (.aload_n 2, 1) := by decide +kernel
theorem d_E_follow_7 : decode b_E_follow 7 = .ok (.getfield 31, 3) := by decide +kernel
theorem d_E_follow_10 : decode b_E_follow 10 = .ok (.iload_n 3, 1) := by decide +kernel
theorem d_E_follow_11 : decode b_E_follow 11 = .ok (.invokevirtual 73, 3) := by decide +kernel
theorem d_E_follow_14 : decode b_E_follow 14 = .ok (.lconst 0, 1) := by decide +kernel
theorem d_E_follow_15 : decode b_E_follow 15 = .ok (.lstore 4, 2) := by decide +kernel
theorem d_E_follow_17 : decode b_E_follow 17 = .ok (.lconst 0, 1) := by decide +kernel
theorem d_E_follow_18 : decode b_E_follow 18 = .ok (.lstore 6, 2) := by decide +kernel
theorem d_E_follow_20 : decode b_E_follow 20 = .ok (.iconst 0, 1) := by decide +kernel
theorem d_E_follow_21 : decode b_E_follow 21 = .ok (.istore 8, 2) := by decide +kernel
theorem d_E_follow_23 : decode b_E_follow 23 = .ok (.iload 8, 2) := by decide +kernel
theorem d_E_follow_25 : decode b_E_follow 25 = .ok (.iload_n 3, 1) := by decide +kernel
theorem d_E_follow_26 : decode b_E_follow 26 = .ok (.if_icmp .ge 111, 3) := by decide +kernel
theorem d_E_follow_29 : decode b_E_follow 29 = .ok (.aload_n 1, 1) := by decide +kernel
theorem d_E_follow_30 : decode b_E_follow 30 = .ok (.getfield 77, 3) := by decide +kernel
theorem d_E_follow_33 : decode b_E_follow 33 = .ok (.iload 8, 2) := by decide +kernel
theorem d_E_follow_35 : decode b_E_follow 35 = .ok (.iaload, 1) := by decide +kernel
theorem d_E_follow_36 : decode b_E_follow 36 = .ok (.i2l, 1) := by decide +kernel
theorem d_E_follow_37 : decode b_E_follow 37 = .ok (.ldc2_w 81, 3) := by decide +kernel
theorem d_E_follow_40 : decode b_E_follow 40 = .ok (.land, 1) := by decide +kernel
theorem d_E_follow_41 : decode b_E_follow 41 = .ok (.lstore 9, 2) := by decide +kernel
theorem d_E_follow_43 : decode b_E_follow 43 = .ok (.aload_n 2, 1) := by decide +kernel
theorem d_E_follow_44 : decode b_E_follow 44 = .ok (.getfield 77, 3) := by decide +kernel
theorem d_E_follow_47 : decode b_E_follow 47 = .ok (.iload 8, 2) := by decide +kernel
theorem d_E_follow_49 : decode b_E_follow 49 = .ok (.iaload, 1) := by decide +kernel
theorem d_E_follow_50 : decode b_E_follow 50 = .ok (.i2l, 1) := by decide +kernel
theorem d_E_follow_51 : decode b_E_follow 51 = .ok (.ldc2_w 81, 3) := by decide +kernel
theorem d_E_follow_54 : decode b_E_follow 54 = .ok (.land, 1) := by decide +kernel
theorem d_E_follow_55 : decode b_E_follow 55 = .ok (.lstore 11, 2) := by decide +kernel
theorem d_E_follow_57 : decode b_E_follow 57 = .ok (.lload 4, 2) := by decide +kernel
theorem d_E_follow_59 : decode b_E_follow 59 = .ok (.aload_n 0, 1) := by decide +kernel
theorem d_E_follow_60 : decode b_E_follow 60 = .ok (.getfield 9, 3) := by decide +kernel
theorem d_E_follow_63 : decode b_E_follow 63 = .ok (.lload 9, 2) := by decide +kernel
theorem d_E_follow_65 : decode b_E_follow 65 = .ok (.lmul, 1) := by decide +kernel
theorem d_E_follow_66 : decode b_E_follow 66 = .ok (.aload_n 0, 1) := by decide +kernel
theorem d_E_follow_67 : decode b_E_follow 67 = .ok (.getfield 15, 3) := by decide +kernel
theorem d_E_follow_70 : decode b_E_follow 70 = .ok (.lload 11, 2) := by decide +kernel
theorem d_E_follow_72 : decode b_E_follow 72 = .ok (.lmul, 1) := by decide +kernel
theorem d_E_follow_73 : decode b_E_follow 73 = .ok (.ladd, 1) := by decide +kernel
theorem d_E_follow_74 : decode b_E_follow 74 = .ok (.ladd, 1) := by decide +kernel
theorem d_E_follow_75 : decode b_E_follow 75 = .ok (.lstore 4, 2) := by decide +kernel
theorem d_E_follow_77 : decode b_E_follow 77 = .ok (.lload 6, 2) := by decide +kernel
theorem d_E_follow_79 : decode b_E_follow 79 = .ok (.aload_n 0, 1) := by decide +kernel
theorem d_E_follow_80 : decode b_E_follow 80 = .ok (.getfield 18, 3) := by decide +kernel
theorem d_E_follow_83 : decode b_E_follow 83 = .ok (.lload 9, 2) := by decide +kernel
theorem d_E_follow_85 : decode b_E_follow 85 = .ok (.lmul, 1) := by decide +kernel
theorem d_E_follow_86 : decode b_E_follow 86 = .ok (.aload_n 0, 1) := by decide +kernel
theorem d_E_follow_87 : decode b_E_follow 87 = .ok (.getfield 21, 3) := by decide +kernel
theorem d_E_follow_90 : decode b_E_follow 90 = .ok (.lload 11, 2) := by decide +kernel
theorem d_E_follow_92 : decode b_E_follow 92 = .ok (.lmul, 1) := by decide +kernel
theorem d_E_follow_93 : decode b_E_follow 93 = .ok (.ladd, 1) := by decide +kernel
theorem d_E_follow_94 : decode b_E_follow 94 = .ok (.ladd, 1) := by decide +kernel
theorem d_E_follow_95 : decode b_E_follow 95 = .ok (.lstore 6, 2) := by decide +kernel
theorem d_E_follow_97 : decode b_E_follow 97 = .ok (.aload_n 1, 1) := by decide +kernel
theorem d_E_follow_98 : decode b_E_follow 98 = .ok (.getfield 77, 3) := by decide +kernel
theorem d_E_follow_101 : decode b_E_follow 101 = .ok (.iload 8, 2) := by decide +kernel
theorem d_E_follow_103 : decode b_E_follow 103 = .ok (.lload 4, 2) := by decide +kernel
theorem d_E_follow_105 : decode b_E_follow 105 = .ok (.l2i, 1) := by decide +kernel
theorem d_E_follow_106 : decode b_E_follow 106 = .ok (.iastore, 1) := by decide +kernel
theorem d_E_follow_107 : decode b_E_follow 107 = .ok (.aload_n 2, 1) := by decide +kernel
theorem d_E_follow_108 : decode b_E_follow 108 = .ok (.getfield 77, 3) := by decide +kernel
theorem d_E_follow_111 : decode b_E_follow 111 = .ok (.iload 8, 2) := by decide +kernel
theorem d_E_follow_113 : decode b_E_follow 113 = .ok (.lload 6, 2) := by decide +kernel
theorem d_E_follow_115 : decode b_E_follow 115 = .ok (.l2i, 1) := by decide +kernel
theorem d_E_follow_116 : decode b_E_follow 116 = .ok (.iastore, 1) := by decide +kernel
theorem d_E_follow_117 : decode b_E_follow 117 = .ok (.lload 4, 2) := by decide +kernel
theorem d_E_follow_119 : decode b_E_follow 119 = .ok (.bipush 32, 2) := by decide +kernel
theorem d_E_follow_121 : decode b_E_follow 121 = .ok (.lshr, 1) := by decide +kernel
theorem d_E_follow_122 : decode b_E_follow 122 = .ok (.lstore 4, 2) := by decide +kernel
theorem d_E_follow_124 : decode b_E_follow 124 = .ok (.lload 6, 2) := by decide +kernel
theorem d_E_follow_126 : decode b_E_follow 126 = .ok (.bipush 32, 2) := by decide +kernel
theorem d_E_follow_128 : decode b_E_follow 128 = .ok (.lshr, 1) := by decide +kernel
theorem d_E_follow_129 : decode b_E_follow 129 = .ok (.lstore 6, 2) := by decide +kernel
theorem d_E_follow_131 : decode b_E_follow 131 = .ok (.iinc 8 1, 3) := by decide +kernel
theorem d_E_follow_134 : decode b_E_follow 134 = .ok (.goto (-111), 3) := by decide +kernel
theorem d_E_follow_137 : decode b_E_follow 137 = .ok (.aload_n 1, 1) := by decide +kernel
theorem d_E_follow_138 : decode b_E_follow 138 = .ok (.iload_n 3, 1) := by decide +kernel
theorem d_E_follow_139 : decode b_E_follow 139 = .ok (.invokevirtual 83, 3) := by decide +kernel
theorem d_E_follow_142 : decode b_E_follow 142 = .ok (.aload_n 2, 1) := by decide +kernel
theorem d_E_follow_143 : decode b_E_follow 143 = .ok (.iload_n 3, 1) := by decide +kernel
theorem d_E_follow_144 : decode b_E_follow 144 = .ok (.invokevirtual 83, 3) := by decide +kernel
theorem d_E_follow_147 : decode b_E_follow 147 = .ok (.return_, 1) := by decide +kernel
