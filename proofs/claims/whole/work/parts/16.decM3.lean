theorem d_M_print_153 : decode b_M_print 153 = .ok (.iload 4, 2) := by decide +kernel
theorem d_M_print_155 : decode b_M_print 155 = .ok (.bipush 10, 2) := by decide +kernel
theorem d_M_print_157 : decode b_M_print 157 = .ok (.idiv, 1) := by decide +kernel
theorem d_M_print_158 : decode b_M_print 158 = .ok (.istore 4, 2) := by decide +kernel
theorem d_M_print_160 : decode b_M_print 160 = .ok (.goto (-59), 3) := by decide +kernel
theorem d_M_print_163 : decode b_M_print 163 = .ok (.iinc 2 (-1), 3) := by decide +kernel
theorem d_M_print_166 : decode b_M_print 166 = .ok (.goto (-87), 3) := by decide +kernel
theorem d_M_print_169 : decode b_M_print 169 = .ok (.aload_n 0, 1) := by decide +kernel
theorem d_M_print_170 : decode b_M_print 170 = .ok (.getfield 118, 3) := by decide +kernel
theorem d_M_print_173 : decode b_M_print 173 = .ok (.ireturn, 1) := by decide +kernel
theorem d_M_character_0 : decode b_M_character 0 = .ok (.aload_n 0, 1) := by decide +kernel
theorem d_M_character_1 : decode b_M_character 1 = .ok (.iconst 0, 1) := by decide +kernel
theorem d_M_character_2 : decode b_M_character 2 = .ok (.putfield 32, 3) := by decide +kernel
theorem d_M_character_5 : decode b_M_character 5 = .ok (.iload_n 1, 1) := by decide +kernel
theorem d_M_character_6 : decode b_M_character 6 = .ok (.ifCond .lt 20, 3) := by decide +kernel
theorem d_M_character_9 : decode b_M_character 9 = .ok (.iload_n 1, 1) := by decide +kernel
theorem d_M_character_10 : decode b_M_character 10 = .ok (.aload_n 0, 1) := by decide +kernel
theorem d_M_character_11 : decode b_M_character 11 = .ok (.getfield 118, 3) := by decide +kernel
theorem d_M_character_14 : decode b_M_character 14 = .ok (.if_icmp .ge 12, 3) := by decide +kernel
theorem d_M_character_17 : decode b_M_character 17 = .ok (.aload_n 0, 1) := by decide +kernel
theorem d_M_character_18 : decode b_M_character 18 = .ok (.getfield 29, 3) := by decide +kernel
theorem d_M_character_21 : decode b_M_character 21 = .ok (.iload_n 1, 1) := by decide +kernel
theorem d_M_character_22 : decode b_M_character 22 = .ok (.iaload, 1) := by decide +kernel
theorem d_M_character_23 : decode b_M_character 23 = .ok (.goto 4, 3) := by decide +kernel
theorem d_M_character_26 : decode b_M_character 26 = .ok (.iconst (-1), 1) := by decide +kernel
theorem d_M_character_27 : decode b_M_character 27 = .ok (.ireturn, 1) := by decide +kernel
