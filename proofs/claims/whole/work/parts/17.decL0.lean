theorem d_L_set_0 : decode b_L_set 0 = .ok (.aload 4, 2) := by decide +kernel
theorem d_L_set_2 : decode b_L_set 2 = .ok (.iconst 0, 1) := by decide +kernel
theorem d_L_set_3 : decode b_L_set 3 = .ok (.aload_n 0, 1) := by decide +kernel
theorem d_L_set_4 : decode b_L_set 4 = .ok (.iload_n 1, 1) := by decide +kernel
theorem d_L_set_5 : decode b_L_set 5 = .ok (.lload_n 2, 1) := by decide +kernel
theorem d_L_set_6 : decode b_L_set 6 = .ok (.invokevirtual 7, 3) := by decide +kernel
theorem d_L_set_9 : decode b_L_set 9 = .ok (.i2l, 1) := by decide +kernel
theorem d_L_set_10 : decode b_L_set 10 = .ok (.lastore, 1) := by decide +kernel
theorem d_L_set_11 : decode b_L_set 11 = .ok (.goto 7, 3) := by decide +kernel
theorem d_L_set_14 : decode b_L_set 14 = .ok (.astore 5, 2) := by decide +kernel
theorem d_L_set_16 : decode b_L_set 16 = .ok (.iconst 1, 1) := by decide +kernel
theorem d_L_set_17 : decode b_L_set 17 = .ok (.ireturn, 1) := by decide +kernel
theorem d_L_set_18 : decode b_L_set 18 = .ok (.iconst 0, 1) := by decide +kernel
theorem d_L_set_19 : decode b_L_set 19 = .ok (.ireturn, 1) := by decide +kernel
theorem d_L_push_0 : decode b_L_push 0 = .ok (.aload_n 3, 1) := by decide +kernel
theorem d_L_push_1 : decode b_L_push 1 = .ok (.iconst 0, 1) := by decide +kernel
theorem d_L_push_2 : decode b_L_push 2 = .ok (.aload_n 0, 1) := by decide +kernel
theorem d_L_push_3 : decode b_L_push 3 = .ok (.iload_n 1, 1) := by decide +kernel
theorem d_L_push_4 : decode b_L_push 4 = .ok (.iload_n 2, 1) := by decide +kernel
theorem d_L_push_5 : decode b_L_push 5 = .ok (.invokevirtual 15, 3) := by decide +kernel
theorem d_L_push_8 : decode b_L_push 8 = .ok (.i2l, 1) := by decide +kernel
theorem d_L_push_9 : decode b_L_push 9 = .ok (.lastore, 1) := by decide +kernel
theorem d_L_push_10 : decode b_L_push 10 = .ok (.goto 11, 3) := by decide +kernel
theorem d_L_push_13 : decode b_L_push 13 = .ok (.astore 4, 2) := by decide +kernel
theorem d_L_push_15 : decode b_L_push 15 = .ok (.iconst 1, 1) := by decide +kernel
theorem d_L_push_16 : decode b_L_push 16 = .ok (.ireturn, 1) := by decide +kernel
theorem d_L_push_17 : decode b_L_push 17 = .ok (.astore 4, 2) := by decide +kernel
theorem d_L_push_19 : decode b_L_push 19 = .ok (.iconst 2, 1) := by decide +kernel
theorem d_L_push_20 : decode b_L_push 20 = .ok (.ireturn, 1) := by decide +kernel
theorem d_L_push_21 : decode b_L_push 21 = .ok (.iconst 0, 1) := by decide +kernel
theorem d_L_push_22 : decode b_L_push 22 = .ok (.ireturn, 1) := by decide +kernel
theorem d_L_copy_0 : decode b_L_copy 0 = .ok (.aload_n 3, 1) := by decide +kernel
theorem d_L_copy_1 : decode b_L_copy 1 = .ok (.iconst 0, 1) := by decide +kernel
theorem d_L_copy_2 : decode b_L_copy 2 = .ok (.aload_n 0, 1) := by decide +kernel
theorem d_L_copy_3 : decode b_L_copy 3 = .ok (.iload_n 1, 1) := by decide +kernel
theorem d_L_copy_4 : decode b_L_copy 4 = .ok (.iload_n 2, 1) := by decide +kernel
theorem d_L_copy_5 : decode b_L_copy 5 = .ok (.invokevirtual 21, 3) := by decide +kernel
theorem d_L_copy_8 : decode b_L_copy 8 = .ok (.i2l, 1) := by decide +kernel
theorem d_L_copy_9 : decode b_L_copy 9 = .ok (.lastore, 1) := by decide +kernel
theorem d_L_copy_10 : decode b_L_copy 10 = .ok (.goto 7, 3) := by decide +kernel
theorem d_L_copy_13 : decode b_L_copy 13 = .ok (.astore 4, 2) := by decide +kernel
theorem d_L_copy_15 : decode b_L_copy 15 = .ok (.iconst 1, 1) := by decide +kernel
theorem d_L_copy_16 : decode b_L_copy 16 = .ok (.ireturn, 1) := by decide +kernel
theorem d_L_copy_17 : decode b_L_copy 17 = .ok (.iconst 0, 1) := by decide +kernel
theorem d_L_copy_18 : decode b_L_copy 18 = .ok (.ireturn, 1) := by decide +kernel
theorem d_L_swap_0 : decode b_L_swap 0 = .ok (.aload_n 3, 1) := by decide +kernel
theorem d_L_swap_1 : decode b_L_swap 1 = .ok (.iconst 0, 1) := by decide +kernel
theorem d_L_swap_2 : decode b_L_swap 2 = .ok (.aload_n 0, 1) := by decide +kernel
theorem d_L_swap_3 : decode b_L_swap 3 = .ok (.iload_n 1, 1) := by decide +kernel
theorem d_L_swap_4 : decode b_L_swap 4 = .ok (.iload_n 2, 1) := by decide +kernel
theorem d_L_swap_5 : decode b_L_swap 5 = .ok (.invokevirtual 24, 3) := by decide +kernel
theorem d_L_swap_8 : decode b_L_swap 8 = .ok (.i2l, 1) := by decide +kernel
theorem d_L_swap_9 : decode b_L_swap 9 = .ok (.lastore, 1) := by decide +kernel
theorem d_L_swap_10 : decode b_L_swap 10 = .ok (.goto 7, 3) := by decide +kernel
theorem d_L_swap_13 : decode b_L_swap 13 = .ok (.astore 4, 2) := by decide +kernel
theorem d_L_swap_15 : decode b_L_swap 15 = .ok (.iconst 1, 1) := by decide +kernel
theorem d_L_swap_16 : decode b_L_swap 16 = .ok (.ireturn, 1) := by decide +kernel
theorem d_L_swap_17 : decode b_L_swap 17 = .ok (.iconst 0, 1) := by decide +kernel
theorem d_L_swap_18 : decode b_L_swap 18 = .ok (.ireturn, 1) := by decide +kernel
theorem d_L_negate_0 : decode b_L_negate 0 = .ok (.aload_n 2, 1) := by decide +kernel
theorem d_L_negate_1 : decode b_L_negate 1 = .ok (.iconst 0, 1) := by decide +kernel
theorem d_L_negate_2 : decode b_L_negate 2 = .ok (.aload_n 0, 1) := by decide +kernel
theorem d_L_negate_3 : decode b_L_negate 3 = .ok (.iload_n 1, 1) := by decide +kernel
theorem d_L_negate_4 : decode b_L_negate 4 = .ok (.invokevirtual 27, 3) := by decide +kernel
theorem d_L_negate_7 : decode b_L_negate 7 = .ok (.i2l, 1) := by decide +kernel
theorem d_L_negate_8 : decode b_L_negate 8 = .ok (.lastore, 1) := by decide +kernel
theorem d_L_negate_9 : decode b_L_negate 9 = .ok (.goto 6, 3) := by decide +kernel
theorem d_L_negate_12 : decode b_L_negate 12 = .ok (.astore_n 3, 1) := by decide +kernel
theorem d_L_negate_13 : decode b_L_negate 13 = .ok (.iconst 1, 1) := by decide +kernel
theorem d_L_negate_14 : decode b_L_negate 14 = .ok (.ireturn, 1) := by decide +kernel
theorem d_L_negate_15 : decode b_L_negate 15 = .ok (.iconst 0, 1) := by decide +kernel
theorem d_L_negate_16 : decode b_L_negate 16 = .ok (.ireturn, 1) := by decide +kernel
theorem d_L_add_0 : decode b_L_add 0 = .ok (.aload 4, 2) := by decide +kernel
theorem d_L_add_2 : decode b_L_add 2 = .ok (.iconst 0, 1) := by decide +kernel
theorem d_L_add_3 : decode b_L_add 3 = .ok (.aload_n 0, 1) := by decide +kernel
theorem d_L_add_4 : decode b_L_add 4 = .ok (.iload_n 1, 1) := by decide +kernel
theorem d_L_add_5 : decode b_L_add 5 = .ok (.iload_n 2, 1) := by decide +kernel
theorem d_L_add_6 : decode b_L_add 6 = .ok (.iload_n 3, 1) := by decide +kernel
theorem d_L_add_7 : decode b_L_add 7 = .ok (.invokevirtual 31, 3) := by decide +kernel
theorem d_L_add_10 : decode b_L_add 10 = .ok (.i2l, 1) := by decide +kernel
theorem d_L_add_11 : decode b_L_add 11 = .ok (.lastore, 1) := by decide +kernel
theorem d_L_add_12 : decode b_L_add 12 = .ok (.goto 11, 3) := by decide +kernel
theorem d_L_add_15 : decode b_L_add 15 = .ok (.astore 5, 2) := by decide +kernel
theorem d_L_add_17 : decode b_L_add 17 = .ok (.iconst 1, 1) := by decide +kernel
theorem d_L_add_18 : decode b_L_add 18 = .ok (.ireturn, 1) := by decide +kernel
theorem d_L_add_19 : decode b_L_add 19 = .ok (.astore 5, 2) := by decide +kernel
theorem d_L_add_21 : decode b_L_add 21 = .ok (.iconst 2, 1) := by decide +kernel
theorem d_L_add_22 : decode b_L_add 22 = .ok (.ireturn, 1) := by decide +kernel
theorem d_L_add_23 : decode b_L_add 23 = .ok (.iconst 0, 1) := by decide +kernel
theorem d_L_add_24 : decode b_L_add 24 = .ok (.ireturn, 1) := by decide +kernel
theorem d_L_subtract_0 : decode b_L_subtract 0 = .ok (.aload 4, 2) := by decide +kernel
theorem d_L_subtract_2 : decode b_L_subtract 2 = .ok (.iconst 0, 1) := by decide +kernel
theorem d_L_subtract_3 : decode b_L_subtract 3 = .ok (.aload_n 0, 1) := by decide +kernel
theorem d_L_subtract_4 : decode b_L_subtract 4 = .ok (.iload_n 1, 1) := by decide +kernel
theorem d_L_subtract_5 : decode b_L_subtract 5 = .ok (.iload_n 2, 1) := by decide +kernel
theorem d_L_subtract_6 : decode b_L_subtract 6 = .ok (.iload_n 3, 1) := by decide +kernel
theorem d_L_subtract_7 : decode b_L_subtract 7 = .ok (.invokevirtual 35, 3) := by decide +kernel
theorem d_L_subtract_10 : decode b_L_subtract 10 = .ok (.i2l, 1) := by decide +kernel
theorem d_L_subtract_11 : decode b_L_subtract 11 = .ok (.lastore, 1) := by decide +kernel
theorem d_L_subtract_12 : decode b_L_subtract 12 = .ok (.goto 11, 3) := by decide +kernel
theorem d_L_subtract_15 : decode b_L_subtract 15 = .ok (.astore 5, 2) := by decide +kernel
theorem d_L_subtract_17 : decode b_L_subtract 17 = .ok (.iconst 1, 1) := by decide +kernel
theorem d_L_subtract_18 : decode b_L_subtract 18 = .ok (.ireturn, 1) := by decide +kernel
theorem d_L_subtract_19 : decode b_L_subtract 19 = .ok (.astore 5, 2) := by decide +kernel
theorem d_L_subtract_21 : decode b_L_subtract 21 = .ok (.iconst 2, 1) := by decide +kernel
theorem d_L_subtract_22 : decode b_L_subtract 22 = .ok (.ireturn, 1) := by decide +kernel
theorem d_L_subtract_23 : decode b_L_subtract 23 = .ok (.iconst 0, 1) := by decide +kernel
theorem d_L_subtract_24 : decode b_L_subtract 24 = .ok (.ireturn, 1) := by decide +kernel
theorem d_L_multiply_0 : decode b_L_multiply 0 = .ok (.aload 4, 2) := by decide +kernel
theorem d_L_multiply_2 : decode b_L_multiply 2 = .ok (.iconst 0, 1) := by decide +kernel
theorem d_L_multiply_3 : decode b_L_multiply 3 = .ok (.aload_n 0, 1) := by decide +kernel
theorem d_L_multiply_4 : decode b_L_multiply 4 = .ok (.iload_n 1, 1) := by decide +kernel
theorem d_L_multiply_5 : decode b_L_multiply 5 = .ok (.iload_n 2, 1) := by decide +kernel
theorem d_L_multiply_6 : decode b_L_multiply 6 = .ok (.iload_n 3, 1) := by decide +kernel
theorem d_L_multiply_7 : decode b_L_multiply 7 = .ok (.invokevirtual 38, 3) := by decide +kernel
theorem d_L_multiply_10 : decode b_L_multiply 10 = .ok (.i2l, 1) := by decide +kernel
theorem d_L_multiply_11 : decode b_L_multiply 11 = .ok (.lastore, 1) := by decide +kernel
theorem d_L_multiply_12 : decode b_L_multiply 12 = .ok (.goto 11, 3) := by decide +kernel
theorem d_L_multiply_15 : decode b_L_multiply 15 = .ok (.astore 5, 2) := by decide +kernel
theorem d_L_multiply_17 : decode b_L_multiply 17 = .ok (.iconst 1, 1) := by decide +kernel
theorem d_L_multiply_18 : decode b_L_multiply 18 = .ok (.ireturn, 1) := by decide +kernel
theorem d_L_multiply_19 : decode b_L_multiply 19 = .ok (.astore 5, 2) := by decide +kernel
theorem d_L_multiply_21 : decode b_L_multiply 21 = .ok (.iconst 2, 1) := by decide +kernel
theorem d_L_multiply_22 : decode b_L_multiply 22 = .ok (.ireturn, 1) := by decide +kernel
theorem d_L_multiply_23 : decode b_L_multiply 23 = .ok (.iconst 0, 1) := by decide +kernel
theorem d_L_multiply_24 : decode b_L_multiply 24 = .ok (.ireturn, 1) := by decide +kernel
theorem d_L_addProduct_0 : decode b_L_addProduct 0 = .ok (.aload 5, 2) := by decide +kernel
theorem d_L_addProduct_2 : decode b_L_addProduct 2 = .ok (.iconst 0, 1) := by decide +kernel
theorem d_L_addProduct_3 : decode b_L_addProduct 3 = .ok (.aload_n 0, 1) := by decide +kernel
theorem d_L_addProduct_4 : decode b_L_addProduct 4 = .ok (.iload_n 1, 1) := by decide +kernel
theorem d_L_addProduct_5 : decode b_L_addProduct 5 = .ok (.iload_n 2, 1) := by decide +kernel
theorem d_L_addProduct_6 : decode b_L_addProduct 6 = .ok (.iload_n 3, 1) := by decide +kernel
theorem d_L_addProduct_7 : decode b_L_addProduct 7 = .ok (.iload 4, 2) := by decide +kernel
theorem d_L_addProduct_9 : decode b_L_addProduct 9 = .ok (.invokevirtual 41, 3) := by decide +kernel
theorem d_L_addProduct_12 : decode b_L_addProduct 12 = .ok (.i2l, 1) := by decide +kernel
theorem d_L_addProduct_13 : decode b_L_addProduct 13 = .ok (.lastore, 1) := by decide +kernel
theorem d_L_addProduct_14 : decode b_L_addProduct 14 = .ok (.goto 11, 3) := by decide +kernel
theorem d_L_addProduct_17 : decode b_L_addProduct 17 = .ok (.astore 6, 2) := by decide +kernel
theorem d_L_addProduct_19 : decode b_L_addProduct 19 = .ok (.iconst 1, 1) := by decide +kernel
theorem d_L_addProduct_20 : decode b_L_addProduct 20 = .ok (.ireturn, 1) := by decide +kernel
theorem d_L_addProduct_21 : decode b_L_addProduct 21 = .ok (.astore 6, 2) := by decide +kernel
theorem d_L_addProduct_23 : decode b_L_addProduct 23 = .ok (.iconst 2, 1) := by decide +kernel
theorem d_L_addProduct_24 : decode b_L_addProduct 24 = .ok (.ireturn, 1) := by decide +kernel
theorem d_L_addProduct_25 : decode b_L_addProduct 25 = .ok (.iconst 0, 1) := by decide +kernel
theorem d_L_addProduct_26 : decode b_L_addProduct 26 = .ok (.ireturn, 1) := by decide +kernel
theorem d_L_divide_0 : decode b_L_divide 0 = .ok (.aload 5, 2) := by decide +kernel
theorem d_L_divide_2 : decode b_L_divide 2 = .ok (.iconst 0, 1) := by decide +kernel
theorem d_L_divide_3 : decode b_L_divide 3 = .ok (.aload_n 0, 1) := by decide +kernel
theorem d_L_divide_4 : decode b_L_divide 4 = .ok (.iload_n 1, 1) := by decide +kernel
theorem d_L_divide_5 : decode b_L_divide 5 = .ok (.iload_n 2, 1) := by decide +kernel
theorem d_L_divide_6 : decode b_L_divide 6 = .ok (.iload_n 3, 1) := by decide +kernel
theorem d_L_divide_7 : decode b_L_divide 7 = .ok (.iload 4, 2) := by decide +kernel
theorem d_L_divide_9 : decode b_L_divide 9 = .ok (.invokevirtual 45, 3) := by decide +kernel
theorem d_L_divide_12 : decode b_L_divide 12 = .ok (.i2l, 1) := by decide +kernel
theorem d_L_divide_13 : decode b_L_divide 13 = .ok (.lastore, 1) := by decide +kernel
theorem d_L_divide_14 : decode b_L_divide 14 = .ok (.goto 15, 3) := by decide +kernel
theorem d_L_divide_17 : decode b_L_divide 17 = .ok (.astore 6, 2) := by decide +kernel
theorem d_L_divide_19 : decode b_L_divide 19 = .ok (.iconst 1, 1) := by decide +kernel
theorem d_L_divide_20 : decode b_L_divide 20 = .ok (.ireturn, 1) := by decide +kernel
theorem d_L_divide_21 : decode b_L_divide 21 = .ok (.astore 6, 2) := by decide +kernel
theorem d_L_divide_23 : decode b_L_divide 23 = .ok (.iconst 2, 1) := by decide +kernel
theorem d_L_divide_24 : decode b_L_divide 24 = .ok (.ireturn, 1) := by decide +kernel
theorem d_L_divide_25 : decode b_L_divide 25 = .ok (.astore 6, 2) := by decide +kernel
theorem d_L_divide_27 : decode b_L_divide 27 = .ok (.iconst 3, 1) := by decide +kernel
theorem d_L_divide_28 : decode b_L_divide 28 = .ok (.ireturn, 1) := by decide +kernel
theorem d_L_divide_29 : decode b_L_divide 29 = .ok (.iconst 0, 1) := by decide +kernel
theorem d_L_divide_30 : decode b_L_divide 30 = .ok (.ireturn, 1) := by decide +kernel
theorem d_L_exact_0 : decode b_L_exact 0 = .ok (.aload 4, 2) := by decide +kernel
theorem d_L_exact_2 : decode b_L_exact 2 = .ok (.iconst 0, 1) := by decide +kernel
theorem d_L_exact_3 : decode b_L_exact 3 = .ok (.aload_n 0, 1) := by decide +kernel
theorem d_L_exact_4 : decode b_L_exact 4 = .ok (.iload_n 1, 1) := by decide +kernel
theorem d_L_exact_5 : decode b_L_exact 5 = .ok (.iload_n 2, 1) := by decide +kernel
theorem d_L_exact_6 : decode b_L_exact 6 = .ok (.iload_n 3, 1) := by decide +kernel
theorem d_L_exact_7 : decode b_L_exact 7 = .ok (.invokevirtual 53, 3) := by decide +kernel
theorem d_L_exact_10 : decode b_L_exact 10 = .ok (.i2l, 1) := by decide +kernel
theorem d_L_exact_11 : decode b_L_exact 11 = .ok (.lastore, 1) := by decide +kernel
theorem d_L_exact_12 : decode b_L_exact 12 = .ok (.goto 11, 3) := by decide +kernel
theorem d_L_exact_15 : decode b_L_exact 15 = .ok (.astore 5, 2) := by decide +kernel
theorem d_L_exact_17 : decode b_L_exact 17 = .ok (.iconst 1, 1) := by decide +kernel
theorem d_L_exact_18 : decode b_L_exact 18 = .ok (.ireturn, 1) := by decide +kernel
theorem d_L_exact_19 : decode b_L_exact 19 = .ok (.astore 5, 2) := by decide +kernel
theorem d_L_exact_21 : decode b_L_exact 21 = .ok (.iconst 2, 1) := by decide +kernel
theorem d_L_exact_22 : decode b_L_exact 22 = .ok (.ireturn, 1) := by decide +kernel
theorem d_L_exact_23 : decode b_L_exact 23 = .ok (.iconst 0, 1) := by decide +kernel
theorem d_L_exact_24 : decode b_L_exact 24 = .ok (.ireturn, 1) := by decide +kernel
theorem d_L_nearest_0 : decode b_L_nearest 0 = .ok (.aload 4, 2) := by decide +kernel
theorem d_L_nearest_2 : decode b_L_nearest 2 = .ok (.iconst 0, 1) := by decide +kernel
theorem d_L_nearest_3 : decode b_L_nearest 3 = .ok (.aload_n 0, 1) := by decide +kernel
theorem d_L_nearest_4 : decode b_L_nearest 4 = .ok (.iload_n 1, 1) := by decide +kernel
theorem d_L_nearest_5 : decode b_L_nearest 5 = .ok (.iload_n 2, 1) := by decide +kernel
theorem d_L_nearest_6 : decode b_L_nearest 6 = .ok (.iload_n 3, 1) := by decide +kernel
theorem d_L_nearest_7 : decode b_L_nearest 7 = .ok (.invokevirtual 56, 3) := by decide +kernel
theorem d_L_nearest_10 : decode b_L_nearest 10 = .ok (.i2l, 1) := by decide +kernel
theorem d_L_nearest_11 : decode b_L_nearest 11 = .ok (.lastore, 1) := by decide +kernel
theorem d_L_nearest_12 : decode b_L_nearest 12 = .ok (.goto 11, 3) := by decide +kernel
theorem d_L_nearest_15 : decode b_L_nearest 15 = .ok (.astore 5, 2) := by decide +kernel
theorem d_L_nearest_17 : decode b_L_nearest 17 = .ok (.iconst 1, 1) := by decide +kernel
theorem d_L_nearest_18 : decode b_L_nearest 18 = .ok (.ireturn, 1) := by decide +kernel
theorem d_L_nearest_19 : decode b_L_nearest 19 = .ok (.astore 5, 2) := by decide +kernel
theorem d_L_nearest_21 : decode b_L_nearest 21 = .ok (.iconst 2, 1) := by decide +kernel
theorem d_L_nearest_22 : decode b_L_nearest 22 = .ok (.ireturn, 1) := by decide +kernel
theorem d_L_nearest_23 : decode b_L_nearest 23 = .ok (.iconst 0, 1) := by decide +kernel
theorem d_L_nearest_24 : decode b_L_nearest 24 = .ok (.ireturn, 1) := by decide +kernel
theorem d_L_gcd_0 : decode b_L_gcd 0 = .ok (.aload 4, 2) := by decide +kernel
theorem d_L_gcd_2 : decode b_L_gcd 2 = .ok (.iconst 0, 1) := by decide +kernel
theorem d_L_gcd_3 : decode b_L_gcd 3 = .ok (.aload_n 0, 1) := by decide +kernel
theorem d_L_gcd_4 : decode b_L_gcd 4 = .ok (.iload_n 1, 1) := by decide +kernel
theorem d_L_gcd_5 : decode b_L_gcd 5 = .ok (.iload_n 2, 1) := by decide +kernel
theorem d_L_gcd_6 : decode b_L_gcd 6 = .ok (.iload_n 3, 1) := by decide +kernel
theorem d_L_gcd_7 : decode b_L_gcd 7 = .ok (.invokevirtual 59, 3) := by decide +kernel
theorem d_L_gcd_10 : decode b_L_gcd 10 = .ok (.i2l, 1) := by decide +kernel
theorem d_L_gcd_11 : decode b_L_gcd 11 = .ok (.lastore, 1) := by decide +kernel
theorem d_L_gcd_12 : decode b_L_gcd 12 = .ok (.goto 7, 3) := by decide +kernel
theorem d_L_gcd_15 : decode b_L_gcd 15 = .ok (.astore 5, 2) := by decide +kernel
theorem d_L_gcd_17 : decode b_L_gcd 17 = .ok (.iconst 1, 1) := by decide +kernel
theorem d_L_gcd_18 : decode b_L_gcd 18 = .ok (.ireturn, 1) := by decide +kernel
theorem d_L_gcd_19 : decode b_L_gcd 19 = .ok (.iconst 0, 1) := by decide +kernel
theorem d_L_gcd_20 : decode b_L_gcd 20 = .ok (.ireturn, 1) := by decide +kernel
theorem d_L_compare_0 : decode b_L_compare 0 = .ok (.aload_n 3, 1) := by decide +kernel
theorem d_L_compare_1 : decode b_L_compare 1 = .ok (.iconst 0, 1) := by decide +kernel
theorem d_L_compare_2 : decode b_L_compare 2 = .ok (.aload_n 0, 1) := by decide +kernel
theorem d_L_compare_3 : decode b_L_compare 3 = .ok (.iload_n 1, 1) := by decide +kernel
theorem d_L_compare_4 : decode b_L_compare 4 = .ok (.iload_n 2, 1) := by decide +kernel
theorem d_L_compare_5 : decode b_L_compare 5 = .ok (.invokevirtual 62, 3) := by decide +kernel
theorem d_L_compare_8 : decode b_L_compare 8 = .ok (.i2l, 1) := by decide +kernel
theorem d_L_compare_9 : decode b_L_compare 9 = .ok (.lastore, 1) := by decide +kernel
theorem d_L_compare_10 : decode b_L_compare 10 = .ok (.goto 7, 3) := by decide +kernel
theorem d_L_compare_13 : decode b_L_compare 13 = .ok (.astore 4, 2) := by decide +kernel
theorem d_L_compare_15 : decode b_L_compare 15 = .ok (.iconst 1, 1) := by decide +kernel
theorem d_L_compare_16 : decode b_L_compare 16 = .ok (.ireturn, 1) := by decide +kernel
theorem d_L_compare_17 : decode b_L_compare 17 = .ok (.iconst 0, 1) := by decide +kernel
theorem d_L_compare_18 : decode b_L_compare 18 = .ok (.ireturn, 1) := by decide +kernel
theorem d_L_sign_0 : decode b_L_sign 0 = .ok (.aload_n 2, 1) := by decide +kernel
theorem d_L_sign_1 : decode b_L_sign 1 = .ok (.iconst 0, 1) := by decide +kernel
theorem d_L_sign_2 : decode b_L_sign 2 = .ok (.aload_n 0, 1) := by decide +kernel
theorem d_L_sign_3 : decode b_L_sign 3 = .ok (.iload_n 1, 1) := by decide +kernel
theorem d_L_sign_4 : decode b_L_sign 4 = .ok (.invokevirtual 65, 3) := by decide +kernel
theorem d_L_sign_7 : decode b_L_sign 7 = .ok (.i2l, 1) := by decide +kernel
theorem d_L_sign_8 : decode b_L_sign 8 = .ok (.lastore, 1) := by decide +kernel
theorem d_L_sign_9 : decode b_L_sign 9 = .ok (.goto 6, 3) := by decide +kernel
theorem d_L_sign_12 : decode b_L_sign 12 = .ok (.astore_n 3, 1) := by decide +kernel
theorem d_L_sign_13 : decode b_L_sign 13 = .ok (.iconst 1, 1) := by decide +kernel
theorem d_L_sign_14 : decode b_L_sign 14 = .ok (.ireturn, 1) := by decide +kernel
theorem d_L_sign_15 : decode b_L_sign 15 = .ok (.iconst 0, 1) := by decide +kernel
theorem d_L_sign_16 : decode b_L_sign 16 = .ok (.ireturn, 1) := by decide +kernel
theorem d_L_length_0 : decode b_L_length 0 = .ok (.aload_n 2, 1) := by decide +kernel
theorem d_L_length_1 : decode b_L_length 1 = .ok (.iconst 0, 1) := by decide +kernel
theorem d_L_length_2 : decode b_L_length 2 = .ok (.aload_n 0, 1) := by decide +kernel
theorem d_L_length_3 : decode b_L_length 3 = .ok (.iload_n 1, 1) := by decide +kernel
theorem d_L_length_4 : decode b_L_length 4 = .ok (.invokevirtual 68, 3) := by decide +kernel
theorem d_L_length_7 : decode b_L_length 7 = .ok (.i2l, 1) := by decide +kernel
theorem d_L_length_8 : decode b_L_length 8 = .ok (.lastore, 1) := by decide +kernel
theorem d_L_length_9 : decode b_L_length 9 = .ok (.goto 6, 3) := by decide +kernel
theorem d_L_length_12 : decode b_L_length 12 = .ok (.astore_n 3, 1) := by decide +kernel
theorem d_L_length_13 : decode b_L_length 13 = .ok (.iconst 1, 1) := by decide +kernel
theorem d_L_length_14 : decode b_L_length 14 = .ok (.ireturn, 1) := by decide +kernel
theorem d_L_length_15 : decode b_L_length 15 = .ok (.iconst 0, 1) := by decide +kernel
theorem d_L_length_16 : decode b_L_length 16 = .ok (.ireturn, 1) := by decide +kernel
theorem d_L_limb_0 : decode b_L_limb 0 = .ok (.aload_n 3, 1) := by decide +kernel
theorem d_L_limb_1 : decode b_L_limb 1 = .ok (.iconst 0, 1) := by decide +kernel
theorem d_L_limb_2 : decode b_L_limb 2 = .ok (.aload_n 0, 1) := by decide +kernel
theorem d_L_limb_3 : decode b_L_limb 3 = .ok (.iload_n 1, 1) := by decide +kernel
theorem d_L_limb_4 : decode b_L_limb 4 = .ok (.iload_n 2, 1) := by decide +kernel
theorem d_L_limb_5 : decode b_L_limb 5 = .ok (.invokevirtual 71, 3) := by decide +kernel
theorem d_L_limb_8 : decode b_L_limb 8 = .ok (.i2l, 1) := by decide +kernel
theorem d_L_limb_9 : decode b_L_limb 9 = .ok (.lastore, 1) := by decide +kernel
theorem d_L_limb_10 : decode b_L_limb 10 = .ok (.goto 7, 3) := by decide +kernel
theorem d_L_limb_13 : decode b_L_limb 13 = .ok (.astore 4, 2) := by decide +kernel
theorem d_L_limb_15 : decode b_L_limb 15 = .ok (.iconst 1, 1) := by decide +kernel
theorem d_L_limb_16 : decode b_L_limb 16 = .ok (.ireturn, 1) := by decide +kernel
theorem d_L_limb_17 : decode b_L_limb 17 = .ok (.iconst 0, 1) := by decide +kernel
theorem d_L_limb_18 : decode b_L_limb 18 = .ok (.ireturn, 1) := by decide +kernel
theorem d_L_rest_0 : decode b_L_rest 0 = .ok (.aload_n 3, 1) := by decide +kernel
theorem d_L_rest_1 : decode b_L_rest 1 = .ok (.iconst 0, 1) := by decide +kernel
theorem d_L_rest_2 : decode b_L_rest 2 = .ok (.aload_n 0, 1) := by decide +kernel
theorem d_L_rest_3 : decode b_L_rest 3 = .ok (.iload_n 1, 1) := by decide +kernel
theorem d_L_rest_4 : decode b_L_rest 4 = .ok (.iload_n 2, 1) := by decide +kernel
theorem d_L_rest_5 : decode b_L_rest 5 = .ok (.invokevirtual 74, 3) := by decide +kernel
theorem d_L_rest_8 : decode b_L_rest 8 = .ok (.i2l, 1) := by decide +kernel
theorem d_L_rest_9 : decode b_L_rest 9 = .ok (.lastore, 1) := by decide +kernel
theorem d_L_rest_10 : decode b_L_rest 10 = .ok (.goto 11, 3) := by decide +kernel
theorem d_L_rest_13 : decode b_L_rest 13 = .ok (.astore 4, 2) := by decide +kernel
theorem d_L_rest_15 : decode b_L_rest 15 = .ok (.iconst 1, 1) := by decide +kernel
theorem d_L_rest_16 : decode b_L_rest 16 = .ok (.ireturn, 1) := by decide +kernel
theorem d_L_rest_17 : decode b_L_rest 17 = .ok (.astore 4, 2) := by decide +kernel
theorem d_L_rest_19 : decode b_L_rest 19 = .ok (.iconst 2, 1) := by decide +kernel
theorem d_L_rest_20 : decode b_L_rest 20 = .ok (.ireturn, 1) := by decide +kernel
theorem d_L_rest_21 : decode b_L_rest 21 = .ok (.iconst 0, 1) := by decide +kernel
theorem d_L_rest_22 : decode b_L_rest 22 = .ok (.ireturn, 1) := by decide +kernel
theorem d_L_print_0 : decode b_L_print 0 = .ok (.aload_n 2, 1) := by decide +kernel
theorem d_L_print_1 : decode b_L_print 1 = .ok (.iconst 0, 1) := by decide +kernel
theorem d_L_print_2 : decode b_L_print 2 = .ok (.aload_n 0, 1) := by decide +kernel
theorem d_L_print_3 : decode b_L_print 3 = .ok (.iload_n 1, 1) := by decide +kernel
theorem d_L_print_4 : decode b_L_print 4 = .ok (.invokevirtual 77, 3) := by decide +kernel
theorem d_L_print_7 : decode b_L_print 7 = .ok (.i2l, 1) := by decide +kernel
theorem d_L_print_8 : decode b_L_print 8 = .ok (.lastore, 1) := by decide +kernel
theorem d_L_print_9 : decode b_L_print 9 = .ok (.goto 6, 3) := by decide +kernel
theorem d_L_print_12 : decode b_L_print 12 = .ok (.astore_n 3, 1) := by decide +kernel
theorem d_L_print_13 : decode b_L_print 13 = .ok (.iconst 1, 1) := by decide +kernel
theorem d_L_print_14 : decode b_L_print 14 = .ok (.ireturn, 1) := by decide +kernel
theorem d_L_print_15 : decode b_L_print 15 = .ok (.iconst 0, 1) := by decide +kernel
theorem d_L_print_16 : decode b_L_print 16 = .ok (.ireturn, 1) := by decide +kernel
theorem d_L_law_0 : decode b_L_law 0 = .ok (.new 8, 3) := by decide +kernel
theorem d_L_law_3 : decode b_L_law 3 = .ok (.dup, 1) := by decide +kernel
theorem d_L_law_4 : decode b_L_law 4 = .ok (.invokespecial 80, 3) := by decide +kernel
theorem d_L_law_7 : decode b_L_law 7 = .ok (.astore_n 1, 1) := by decide +kernel
theorem d_L_law_8 : decode b_L_law 8 = .ok (.new 81, 3) := by decide +kernel
theorem d_L_law_11 : decode b_L_law 11 = .ok (.dup, 1) := by decide +kernel
theorem d_L_law_12 : decode b_L_law 12 = .ok (.invokespecial 83, 3) := by decide +kernel
theorem d_L_law_15 : decode b_L_law 15 = .ok (.astore_n 2, 1) := by decide +kernel
theorem d_L_law_16 : decode b_L_law 16 = .ok (.iconst 1, 1) := by decide +kernel
theorem d_L_law_17 : decode b_L_law 17 = .ok (.newarray .long, 2) := by decide +kernel
theorem d_L_law_19 : decode b_L_law 19 = .ok (.astore_n 3, 1) := by decide +kernel
theorem d_L_law_20 : decode b_L_law 20 = .ok (.iconst 0, 1) := by decide +kernel
theorem d_L_law_21 : decode b_L_law 21 = .ok (.istore 4, 2) := by decide +kernel
theorem d_L_law_23 : decode b_L_law 23 = .ok (.iload 4, 2) := by decide +kernel
theorem d_L_law_25 : decode b_L_law 25 = .ok (.aload_n 0, 1) := by decide +kernel
theorem d_L_law_26 : decode b_L_law 26 = .ok (.arraylength, 1) := by decide +kernel
theorem d_L_law_27 : decode b_L_law 27 = .ok (.iconst 5, 1) := by decide +kernel
theorem d_L_law_28 : decode b_L_law 28 = .ok (.isub, 1) := by decide +kernel
theorem d_L_law_29 : decode b_L_law 29 = .ok (.if_icmp .gt 1546, 3) := by decide +kernel
theorem d_L_law_32 : decode b_L_law 32 = .ok (.aload_n 0, 1) := by decide +kernel
theorem d_L_law_33 : decode b_L_law 33 = .ok (.iload 4, 2) := by decide +kernel
theorem d_L_law_35 : decode b_L_law 35 = .ok (.iaload, 1) := by decide +kernel
theorem d_L_law_36 : decode b_L_law 36 = .ok (.bipush 31, 2) := by decide +kernel
theorem d_L_law_38 : decode b_L_law 38 = .ok (.iand, 1) := by decide +kernel
theorem d_L_law_39 : decode b_L_law 39 = .ok (.tableswitch 1530 0 19 #[93, 193, 261, 329, 397, 453, 533, 613, 693, 801, 893, 973, 1053, 1133, 1201, 1257, 1313, 1381, 1449, 1505], 93) := by decide +kernel
theorem d_L_law_132 : decode b_L_law 132 = .ok (.aload_n 1, 1) := by decide +kernel
theorem d_L_law_133 : decode b_L_law 133 = .ok (.aload_n 0, 1) := by decide +kernel
theorem d_L_law_134 : decode b_L_law 134 = .ok (.iload 4, 2) := by decide +kernel
theorem d_L_law_136 : decode b_L_law 136 = .ok (.iconst 1, 1) := by decide +kernel
theorem d_L_law_137 : decode b_L_law 137 = .ok (.iadd, 1) := by decide +kernel
theorem d_L_law_138 : decode b_L_law 138 = .ok (.iaload, 1) := by decide +kernel
theorem d_L_law_139 : decode b_L_law 139 = .ok (.aload_n 0, 1) := by decide +kernel
theorem d_L_law_140 : decode b_L_law 140 = .ok (.iload 4, 2) := by decide +kernel
theorem d_L_law_142 : decode b_L_law 142 = .ok (.iconst 2, 1) := by decide +kernel
theorem d_L_law_143 : decode b_L_law 143 = .ok (.iadd, 1) := by decide +kernel
theorem d_L_law_144 : decode b_L_law 144 = .ok (.iaload, 1) := by decide +kernel
theorem d_L_law_145 : decode b_L_law 145 = .ok (.i2l, 1) := by decide +kernel
theorem d_L_law_146 : decode b_L_law 146 = .ok (.bipush 32, 2) := by decide +kernel
theorem d_L_law_148 : decode b_L_law 148 = .ok (.lshl, 1) := by decide +kernel
theorem d_L_law_149 : decode b_L_law 149 = .ok (.aload_n 0, 1) := by decide +kernel
theorem d_L_law_150 : decode b_L_law 150 = .ok (.iload 4, 2) := by decide +kernel
theorem d_L_law_152 : decode b_L_law 152 = .ok (.iconst 3, 1) := by decide +kernel
theorem d_L_law_153 : decode b_L_law 153 = .ok (.iadd, 1) := by decide +kernel
theorem d_L_law_154 : decode b_L_law 154 = .ok (.iaload, 1) := by decide +kernel
theorem d_L_law_155 : decode b_L_law 155 = .ok (.i2l, 1) := by decide +kernel
theorem d_L_law_156 : decode b_L_law 156 = .ok (.ldc2_w 84, 3) := by decide +kernel
theorem d_L_law_159 : decode b_L_law 159 = .ok (.land, 1) := by decide +kernel
theorem d_L_law_160 : decode b_L_law 160 = .ok (.lor, 1) := by decide +kernel
theorem d_L_law_161 : decode b_L_law 161 = .ok (.aload_n 3, 1) := by decide +kernel
theorem d_L_law_162 : decode b_L_law 162 = .ok (.invokestatic 86, 3) := by decide +kernel
theorem d_L_law_165 : decode b_L_law 165 = .ok (.istore 5, 2) := by decide +kernel
theorem d_L_law_167 : decode b_L_law 167 = .ok (.aload_n 2, 1) := by decide +kernel
theorem d_L_law_168 : decode b_L_law 168 = .ok (.aload_n 0, 1) := by decide +kernel
theorem d_L_law_169 : decode b_L_law 169 = .ok (.iload 4, 2) := by decide +kernel
theorem d_L_law_171 : decode b_L_law 171 = .ok (.iconst 1, 1) := by decide +kernel
theorem d_L_law_172 : decode b_L_law 172 = .ok (.iadd, 1) := by decide +kernel
theorem d_L_law_173 : decode b_L_law 173 = .ok (.iaload, 1) := by decide +kernel
theorem d_L_law_174 : decode b_L_law 174 = .ok (.aload_n 0, 1) := by decide +kernel
theorem d_L_law_175 : decode b_L_law 175 = .ok (.iload 4, 2) := by decide +kernel
theorem d_L_law_177 : decode b_L_law 177 = .ok (.iconst 2, 1) := by decide +kernel
theorem d_L_law_178 : decode b_L_law 178 = .ok (.iadd, 1) := by decide +kernel
theorem d_L_law_179 : decode b_L_law 179 = .ok (.iaload, 1) := by decide +kernel
theorem d_L_law_180 : decode b_L_law 180 = .ok (.i2l, 1) := by decide +kernel
theorem d_L_law_181 : decode b_L_law 181 = .ok (.bipush 32, 2) := by decide +kernel
theorem d_L_law_183 : decode b_L_law 183 = .ok (.lshl, 1) := by decide +kernel
theorem d_L_law_184 : decode b_L_law 184 = .ok (.aload_n 0, 1) := by decide +kernel
theorem d_L_law_185 : decode b_L_law 185 = .ok (.iload 4, 2) := by decide +kernel
theorem d_L_law_187 : decode b_L_law 187 = .ok (.iconst 3, 1) := by decide +kernel
theorem d_L_law_188 : decode b_L_law 188 = .ok (.iadd, 1) := by decide +kernel
theorem d_L_law_189 : decode b_L_law 189 = .ok (.iaload, 1) := by decide +kernel
theorem d_L_law_190 : decode b_L_law 190 = .ok (.i2l, 1) := by decide +kernel
theorem d_L_law_191 : decode b_L_law 191 = .ok (.ldc2_w 84, 3) := by decide +kernel
theorem d_L_law_194 : decode b_L_law 194 = .ok (.land, 1) := by decide +kernel
theorem d_L_law_195 : decode b_L_law 195 = .ok (.lor, 1) := by decide +kernel
theorem d_L_law_196 : decode b_L_law 196 = .ok (.invokevirtual 91, 3) := by decide +kernel
theorem d_L_law_199 : decode b_L_law 199 = .ok (.istore 6, 2) := by decide +kernel
theorem d_L_law_201 : decode b_L_law 201 = .ok (.aload_n 2, 1) := by decide +kernel
theorem d_L_law_202 : decode b_L_law 202 = .ok (.invokevirtual 92, 3) := by decide +kernel
theorem d_L_law_205 : decode b_L_law 205 = .ok (.iload 5, 2) := by decide +kernel
theorem d_L_law_207 : decode b_L_law 207 = .ok (.if_icmp .eq 5, 3) := by decide +kernel
theorem d_L_law_210 : decode b_L_law 210 = .ok (.iconst 0, 1) := by decide +kernel
theorem d_L_law_211 : decode b_L_law 211 = .ok (.ireturn, 1) := by decide +kernel
theorem d_L_law_212 : decode b_L_law 212 = .ok (.iload 5, 2) := by decide +kernel
theorem d_L_law_214 : decode b_L_law 214 = .ok (.ifCond .ne 15, 3) := by decide +kernel
theorem d_L_law_217 : decode b_L_law 217 = .ok (.aload_n 3, 1) := by decide +kernel
theorem d_L_law_218 : decode b_L_law 218 = .ok (.iconst 0, 1) := by decide +kernel
theorem d_L_law_219 : decode b_L_law 219 = .ok (.laload, 1) := by decide +kernel
theorem d_L_law_220 : decode b_L_law 220 = .ok (.iload 6, 2) := by decide +kernel
theorem d_L_law_222 : decode b_L_law 222 = .ok (.i2l, 1) := by decide +kernel
theorem d_L_law_223 : decode b_L_law 223 = .ok (.lcmp, 1) := by decide +kernel
theorem d_L_law_224 : decode b_L_law 224 = .ok (.ifCond .eq 5, 3) := by decide +kernel
theorem d_L_law_227 : decode b_L_law 227 = .ok (.iconst 0, 1) := by decide +kernel
theorem d_L_law_228 : decode b_L_law 228 = .ok (.ireturn, 1) := by decide +kernel
theorem d_L_law_229 : decode b_L_law 229 = .ok (.goto 1340, 3) := by decide +kernel
theorem d_L_law_232 : decode b_L_law 232 = .ok (.aload_n 1, 1) := by decide +kernel
theorem d_L_law_233 : decode b_L_law 233 = .ok (.aload_n 0, 1) := by decide +kernel
theorem d_L_law_234 : decode b_L_law 234 = .ok (.iload 4, 2) := by decide +kernel
theorem d_L_law_236 : decode b_L_law 236 = .ok (.iconst 1, 1) := by decide +kernel
theorem d_L_law_237 : decode b_L_law 237 = .ok (.iadd, 1) := by decide +kernel
theorem d_L_law_238 : decode b_L_law 238 = .ok (.iaload, 1) := by decide +kernel
theorem d_L_law_239 : decode b_L_law 239 = .ok (.aload_n 0, 1) := by decide +kernel
theorem d_L_law_240 : decode b_L_law 240 = .ok (.iload 4, 2) := by decide +kernel
theorem d_L_law_242 : decode b_L_law 242 = .ok (.iconst 2, 1) := by decide +kernel
theorem d_L_law_243 : decode b_L_law 243 = .ok (.iadd, 1) := by decide +kernel
theorem d_L_law_244 : decode b_L_law 244 = .ok (.iaload, 1) := by decide +kernel
theorem d_L_law_245 : decode b_L_law 245 = .ok (.aload_n 3, 1) := by decide +kernel
theorem d_L_law_246 : decode b_L_law 246 = .ok (.invokestatic 96, 3) := by decide +kernel
theorem d_L_law_249 : decode b_L_law 249 = .ok (.istore 5, 2) := by decide +kernel
theorem d_L_law_251 : decode b_L_law 251 = .ok (.aload_n 2, 1) := by decide +kernel
theorem d_L_law_252 : decode b_L_law 252 = .ok (.aload_n 0, 1) := by decide +kernel
theorem d_L_law_253 : decode b_L_law 253 = .ok (.iload 4, 2) := by decide +kernel
theorem d_L_law_255 : decode b_L_law 255 = .ok (.iconst 1, 1) := by decide +kernel
theorem d_L_law_256 : decode b_L_law 256 = .ok (.iadd, 1) := by decide +kernel
theorem d_L_law_257 : decode b_L_law 257 = .ok (.iaload, 1) := by decide +kernel
theorem d_L_law_258 : decode b_L_law 258 = .ok (.aload_n 0, 1) := by decide +kernel
theorem d_L_law_259 : decode b_L_law 259 = .ok (.iload 4, 2) := by decide +kernel
theorem d_L_law_261 : decode b_L_law 261 = .ok (.iconst 2, 1) := by decide +kernel
theorem d_L_law_262 : decode b_L_law 262 = .ok (.iadd, 1) := by decide +kernel
theorem d_L_law_263 : decode b_L_law 263 = .ok (.iaload, 1) := by decide +kernel
theorem d_L_law_264 : decode b_L_law 264 = .ok (.invokevirtual 99, 3) := by decide +kernel
theorem d_L_law_267 : decode b_L_law 267 = .ok (.istore 6, 2) := by decide +kernel
theorem d_L_law_269 : decode b_L_law 269 = .ok (.aload_n 2, 1) := by decide +kernel
theorem d_L_law_270 : decode b_L_law 270 = .ok (.invokevirtual 92, 3) := by decide +kernel
theorem d_L_law_273 : decode b_L_law 273 = .ok (.iload 5, 2) := by decide +kernel
theorem d_L_law_275 : decode b_L_law 275 = .ok (.if_icmp .eq 5, 3) := by decide +kernel
theorem d_L_law_278 : decode b_L_law 278 = .ok (.iconst 0, 1) := by decide +kernel
theorem d_L_law_279 : decode b_L_law 279 = .ok (.ireturn, 1) := by decide +kernel
theorem d_L_law_280 : decode b_L_law 280 = .ok (.iload 5, 2) := by decide +kernel
theorem d_L_law_282 : decode b_L_law 282 = .ok (.ifCond .ne 15, 3) := by decide +kernel
theorem d_L_law_285 : decode b_L_law 285 = .ok (.aload_n 3, 1) := by decide +kernel
theorem d_L_law_286 : decode b_L_law 286 = .ok (.iconst 0, 1) := by decide +kernel
theorem d_L_law_287 : decode b_L_law 287 = .ok (.laload, 1) := by decide +kernel
theorem d_L_law_288 : decode b_L_law 288 = .ok (.iload 6, 2) := by decide +kernel
theorem d_L_law_290 : decode b_L_law 290 = .ok (.i2l, 1) := by decide +kernel
theorem d_L_law_291 : decode b_L_law 291 = .ok (.lcmp, 1) := by decide +kernel
theorem d_L_law_292 : decode b_L_law 292 = .ok (.ifCond .eq 5, 3) := by decide +kernel
theorem d_L_law_295 : decode b_L_law 295 = .ok (.iconst 0, 1) := by decide +kernel
theorem d_L_law_296 : decode b_L_law 296 = .ok (.ireturn, 1) := by decide +kernel
theorem d_L_law_297 : decode b_L_law 297 = .ok (.goto 1272, 3) := by decide +kernel
theorem d_L_law_300 : decode b_L_law 300 = .ok (.aload_n 1, 1) := by decide +kernel
theorem d_L_law_301 : decode b_L_law 301 = .ok (.aload_n 0, 1) := by decide +kernel
theorem d_L_law_302 : decode b_L_law 302 = .ok (.iload 4, 2) := by decide +kernel
theorem d_L_law_304 : decode b_L_law 304 = .ok (.iconst 1, 1) := by decide +kernel
theorem d_L_law_305 : decode b_L_law 305 = .ok (.iadd, 1) := by decide +kernel
theorem d_L_law_306 : decode b_L_law 306 = .ok (.iaload, 1) := by decide +kernel
theorem d_L_law_307 : decode b_L_law 307 = .ok (.aload_n 0, 1) := by decide +kernel
theorem d_L_law_308 : decode b_L_law 308 = .ok (.iload 4, 2) := by decide +kernel
theorem d_L_law_310 : decode b_L_law 310 = .ok (.iconst 2, 1) := by decide +kernel
theorem d_L_law_311 : decode b_L_law 311 = .ok (.iadd, 1) := by decide +kernel
theorem d_L_law_312 : decode b_L_law 312 = .ok (.iaload, 1) := by decide +kernel
theorem d_L_law_313 : decode b_L_law 313 = .ok (.aload_n 3, 1) := by decide +kernel
theorem d_L_law_314 : decode b_L_law 314 = .ok (.invokestatic 100, 3) := by decide +kernel
theorem d_L_law_317 : decode b_L_law 317 = .ok (.istore 5, 2) := by decide +kernel
theorem d_L_law_319 : decode b_L_law 319 = .ok (.aload_n 2, 1) := by decide +kernel
theorem d_L_law_320 : decode b_L_law 320 = .ok (.aload_n 0, 1) := by decide +kernel
theorem d_L_law_321 : decode b_L_law 321 = .ok (.iload 4, 2) := by decide +kernel
theorem d_L_law_323 : decode b_L_law 323 = .ok (.iconst 1, 1) := by decide +kernel
theorem d_L_law_324 : decode b_L_law 324 = .ok (.iadd, 1) := by decide +kernel
theorem d_L_law_325 : decode b_L_law 325 = .ok (.iaload, 1) := by decide +kernel
theorem d_L_law_326 : decode b_L_law 326 = .ok (.aload_n 0, 1) := by decide +kernel
theorem d_L_law_327 : decode b_L_law 327 = .ok (.iload 4, 2) := by decide +kernel
theorem d_L_law_329 : decode b_L_law 329 = .ok (.iconst 2, 1) := by decide +kernel
theorem d_L_law_330 : decode b_L_law 330 = .ok (.iadd, 1) := by decide +kernel
theorem d_L_law_331 : decode b_L_law 331 = .ok (.iaload, 1) := by decide +kernel
theorem d_L_law_332 : decode b_L_law 332 = .ok (.invokevirtual 102, 3) := by decide +kernel
theorem d_L_law_335 : decode b_L_law 335 = .ok (.istore 6, 2) := by decide +kernel
theorem d_L_law_337 : decode b_L_law 337 = .ok (.aload_n 2, 1) := by decide +kernel
theorem d_L_law_338 : decode b_L_law 338 = .ok (.invokevirtual 92, 3) := by decide +kernel
theorem d_L_law_341 : decode b_L_law 341 = .ok (.iload 5, 2) := by decide +kernel
theorem d_L_law_343 : decode b_L_law 343 = .ok (.if_icmp .eq 5, 3) := by decide +kernel
theorem d_L_law_346 : decode b_L_law 346 = .ok (.iconst 0, 1) := by decide +kernel
theorem d_L_law_347 : decode b_L_law 347 = .ok (.ireturn, 1) := by decide +kernel
theorem d_L_law_348 : decode b_L_law 348 = .ok (.iload 5, 2) := by decide +kernel
theorem d_L_law_350 : decode b_L_law 350 = .ok (.ifCond .ne 15, 3) := by decide +kernel
theorem d_L_law_353 : decode b_L_law 353 = .ok (.aload_n 3, 1) := by decide +kernel
theorem d_L_law_354 : decode b_L_law 354 = .ok (.iconst 0, 1) := by decide +kernel
theorem d_L_law_355 : decode b_L_law 355 = .ok (.laload, 1) := by decide +kernel
theorem d_L_law_356 : decode b_L_law 356 = .ok (.iload 6, 2) := by decide +kernel
theorem d_L_law_358 : decode b_L_law 358 = .ok (.i2l, 1) := by decide +kernel
theorem d_L_law_359 : decode b_L_law 359 = .ok (.lcmp, 1) := by decide +kernel
theorem d_L_law_360 : decode b_L_law 360 = .ok (.ifCond .eq 5, 3) := by decide +kernel
theorem d_L_law_363 : decode b_L_law 363 = .ok (.iconst 0, 1) := by decide +kernel
theorem d_L_law_364 : decode b_L_law 364 = .ok (.ireturn, 1) := by decide +kernel
theorem d_L_law_365 : decode b_L_law 365 = .ok (.goto 1204, 3) := by decide +kernel
theorem d_L_law_368 : decode b_L_law 368 = .ok (.aload_n 1, 1) := by decide +kernel
theorem d_L_law_369 : decode b_L_law 369 = .ok (.aload_n 0, 1) := by decide +kernel
theorem d_L_law_370 : decode b_L_law 370 = .ok (.iload 4, 2) := by decide +kernel
theorem d_L_law_372 : decode b_L_law 372 = .ok (.iconst 1, 1) := by decide +kernel
theorem d_L_law_373 : decode b_L_law 373 = .ok (.iadd, 1) := by decide +kernel
theorem d_L_law_374 : decode b_L_law 374 = .ok (.iaload, 1) := by decide +kernel
theorem d_L_law_375 : decode b_L_law 375 = .ok (.aload_n 0, 1) := by decide +kernel
theorem d_L_law_376 : decode b_L_law 376 = .ok (.iload 4, 2) := by decide +kernel
theorem d_L_law_378 : decode b_L_law 378 = .ok (.iconst 2, 1) := by decide +kernel
theorem d_L_law_379 : decode b_L_law 379 = .ok (.iadd, 1) := by decide +kernel
theorem d_L_law_380 : decode b_L_law 380 = .ok (.iaload, 1) := by decide +kernel
theorem d_L_law_381 : decode b_L_law 381 = .ok (.aload_n 3, 1) := by decide +kernel
theorem d_L_law_382 : decode b_L_law 382 = .ok (.invokestatic 103, 3) := by decide +kernel
theorem d_L_law_385 : decode b_L_law 385 = .ok (.istore 5, 2) := by decide +kernel
theorem d_L_law_387 : decode b_L_law 387 = .ok (.aload_n 2, 1) := by decide +kernel
theorem d_L_law_388 : decode b_L_law 388 = .ok (.aload_n 0, 1) := by decide +kernel
theorem d_L_law_389 : decode b_L_law 389 = .ok (.iload 4, 2) := by decide +kernel
theorem d_L_law_391 : decode b_L_law 391 = .ok (.iconst 1, 1) := by decide +kernel
theorem d_L_law_392 : decode b_L_law 392 = .ok (.iadd, 1) := by decide +kernel
theorem d_L_law_393 : decode b_L_law 393 = .ok (.iaload, 1) := by decide +kernel
theorem d_L_law_394 : decode b_L_law 394 = .ok (.aload_n 0, 1) := by decide +kernel
theorem d_L_law_395 : decode b_L_law 395 = .ok (.iload 4, 2) := by decide +kernel
theorem d_L_law_397 : decode b_L_law 397 = .ok (.iconst 2, 1) := by decide +kernel
theorem d_L_law_398 : decode b_L_law 398 = .ok (.iadd, 1) := by decide +kernel
theorem d_L_law_399 : decode b_L_law 399 = .ok (.iaload, 1) := by decide +kernel
theorem d_L_law_400 : decode b_L_law 400 = .ok (.invokevirtual 105, 3) := by decide +kernel
theorem d_L_law_403 : decode b_L_law 403 = .ok (.istore 6, 2) := by decide +kernel
theorem d_L_law_405 : decode b_L_law 405 = .ok (.aload_n 2, 1) := by decide +kernel
theorem d_L_law_406 : decode b_L_law 406 = .ok (.invokevirtual 92, 3) := by decide +kernel
theorem d_L_law_409 : decode b_L_law 409 = .ok (.iload 5, 2) := by decide +kernel
theorem d_L_law_411 : decode b_L_law 411 = .ok (.if_icmp .eq 5, 3) := by decide +kernel
theorem d_L_law_414 : decode b_L_law 414 = .ok (.iconst 0, 1) := by decide +kernel
theorem d_L_law_415 : decode b_L_law 415 = .ok (.ireturn, 1) := by decide +kernel
theorem d_L_law_416 : decode b_L_law 416 = .ok (.iload 5, 2) := by decide +kernel
theorem d_L_law_418 : decode b_L_law 418 = .ok (.ifCond .ne 15, 3) := by decide +kernel
theorem d_L_law_421 : decode b_L_law 421 = .ok (.aload_n 3, 1) := by decide +kernel
theorem d_L_law_422 : decode b_L_law 422 = .ok (.iconst 0, 1) := by decide +kernel
theorem d_L_law_423 : decode b_L_law 423 = .ok (.laload, 1) := by decide +kernel
theorem d_L_law_424 : decode b_L_law 424 = .ok (.iload 6, 2) := by decide +kernel
theorem d_L_law_426 : decode b_L_law 426 = .ok (.i2l, 1) := by decide +kernel
theorem d_L_law_427 : decode b_L_law 427 = .ok (.lcmp, 1) := by decide +kernel
theorem d_L_law_428 : decode b_L_law 428 = .ok (.ifCond .eq 5, 3) := by decide +kernel
theorem d_L_law_431 : decode b_L_law 431 = .ok (.iconst 0, 1) := by decide +kernel
theorem d_L_law_432 : decode b_L_law 432 = .ok (.ireturn, 1) := by decide +kernel
theorem d_L_law_433 : decode b_L_law 433 = .ok (.goto 1136, 3) := by decide +kernel
theorem d_L_law_436 : decode b_L_law 436 = .ok (.aload_n 1, 1) := by decide +kernel
theorem d_L_law_437 : decode b_L_law 437 = .ok (.aload_n 0, 1) := by decide +kernel
theorem d_L_law_438 : decode b_L_law 438 = .ok (.iload 4, 2) := by decide +kernel
theorem d_L_law_440 : decode b_L_law 440 = .ok (.iconst 1, 1) := by decide +kernel
theorem d_L_law_441 : decode b_L_law 441 = .ok (.iadd, 1) := by decide +kernel
theorem d_L_law_442 : decode b_L_law 442 = .ok (.iaload, 1) := by decide +kernel
theorem d_L_law_443 : decode b_L_law 443 = .ok (.aload_n 3, 1) := by decide +kernel
theorem d_L_law_444 : decode b_L_law 444 = .ok (.invokestatic 106, 3) := by decide +kernel
theorem d_L_law_447 : decode b_L_law 447 = .ok (.istore 5, 2) := by decide +kernel
theorem d_L_law_449 : decode b_L_law 449 = .ok (.aload_n 2, 1) := by decide +kernel
theorem d_L_law_450 : decode b_L_law 450 = .ok (.aload_n 0, 1) := by decide +kernel
theorem d_L_law_451 : decode b_L_law 451 = .ok (.iload 4, 2) := by decide +kernel
theorem d_L_law_453 : decode b_L_law 453 = .ok (.iconst 1, 1) := by decide +kernel
theorem d_L_law_454 : decode b_L_law 454 = .ok (.iadd, 1) := by decide +kernel
theorem d_L_law_455 : decode b_L_law 455 = .ok (.iaload, 1) := by decide +kernel
theorem d_L_law_456 : decode b_L_law 456 = .ok (.invokevirtual 109, 3) := by decide +kernel
theorem d_L_law_459 : decode b_L_law 459 = .ok (.istore 6, 2) := by decide +kernel
theorem d_L_law_461 : decode b_L_law 461 = .ok (.aload_n 2, 1) := by decide +kernel
theorem d_L_law_462 : decode b_L_law 462 = .ok (.invokevirtual 92, 3) := by decide +kernel
theorem d_L_law_465 : decode b_L_law 465 = .ok (.iload 5, 2) := by decide +kernel
theorem d_L_law_467 : decode b_L_law 467 = .ok (.if_icmp .eq 5, 3) := by decide +kernel
theorem d_L_law_470 : decode b_L_law 470 = .ok (.iconst 0, 1) := by decide +kernel
theorem d_L_law_471 : decode b_L_law 471 = .ok (.ireturn, 1) := by decide +kernel
theorem d_L_law_472 : decode b_L_law 472 = .ok (.iload 5, 2) := by decide +kernel
theorem d_L_law_474 : decode b_L_law 474 = .ok (.ifCond .ne 15, 3) := by decide +kernel
theorem d_L_law_477 : decode b_L_law 477 = .ok (.aload_n 3, 1) := by decide +kernel
theorem d_L_law_478 : decode b_L_law 478 = .ok (.iconst 0, 1) := by decide +kernel
theorem d_L_law_479 : decode b_L_law 479 = .ok (.laload, 1) := by decide +kernel
theorem d_L_law_480 : decode b_L_law 480 = .ok (.iload 6, 2) := by decide +kernel
theorem d_L_law_482 : decode b_L_law 482 = .ok (.i2l, 1) := by decide +kernel
theorem d_L_law_483 : decode b_L_law 483 = .ok (.lcmp, 1) := by decide +kernel
theorem d_L_law_484 : decode b_L_law 484 = .ok (.ifCond .eq 5, 3) := by decide +kernel
theorem d_L_law_487 : decode b_L_law 487 = .ok (.iconst 0, 1) := by decide +kernel
theorem d_L_law_488 : decode b_L_law 488 = .ok (.ireturn, 1) := by decide +kernel
theorem d_L_law_489 : decode b_L_law 489 = .ok (.goto 1080, 3) := by decide +kernel
theorem d_L_law_492 : decode b_L_law 492 = .ok (.aload_n 1, 1) := by decide +kernel
theorem d_L_law_493 : decode b_L_law 493 = .ok (.aload_n 0, 1) := by decide +kernel
theorem d_L_law_494 : decode b_L_law 494 = .ok (.iload 4, 2) := by decide +kernel
theorem d_L_law_496 : decode b_L_law 496 = .ok (.iconst 1, 1) := by decide +kernel
theorem d_L_law_497 : decode b_L_law 497 = .ok (.iadd, 1) := by decide +kernel
theorem d_L_law_498 : decode b_L_law 498 = .ok (.iaload, 1) := by decide +kernel
theorem d_L_law_499 : decode b_L_law 499 = .ok (.aload_n 0, 1) := by decide +kernel
theorem d_L_law_500 : decode b_L_law 500 = .ok (.iload 4, 2) := by decide +kernel
theorem d_L_law_502 : decode b_L_law 502 = .ok (.iconst 2, 1) := by decide +kernel
theorem d_L_law_503 : decode b_L_law 503 = .ok (.iadd, 1) := by decide +kernel
theorem d_L_law_504 : decode b_L_law 504 = .ok (.iaload, 1) := by decide +kernel
theorem d_L_law_505 : decode b_L_law 505 = .ok (.aload_n 0, 1) := by decide +kernel
theorem d_L_law_506 : decode b_L_law 506 = .ok (.iload 4, 2) := by decide +kernel
theorem d_L_law_508 : decode b_L_law 508 = .ok (.iconst 3, 1) := by decide +kernel
theorem d_L_law_509 : decode b_L_law 509 = .ok (.iadd, 1) := by decide +kernel
theorem d_L_law_510 : decode b_L_law 510 = .ok (.iaload, 1) := by decide +kernel
theorem d_L_law_511 : decode b_L_law 511 = .ok (.aload_n 3, 1) := by decide +kernel
theorem d_L_law_512 : decode b_L_law 512 = .ok (.invokestatic 110, 3) := by decide +kernel
theorem d_L_law_515 : decode b_L_law 515 = .ok (.istore 5, 2) := by decide +kernel
theorem d_L_law_517 : decode b_L_law 517 = .ok (.aload_n 2, 1) := by decide +kernel
theorem d_L_law_518 : decode b_L_law 518 = .ok (.aload_n 0, 1) := by decide +kernel
theorem d_L_law_519 : decode b_L_law 519 = .ok (.iload 4, 2) := by decide +kernel
theorem d_L_law_521 : decode b_L_law 521 = .ok (.iconst 1, 1) := by decide +kernel
theorem d_L_law_522 : decode b_L_law 522 = .ok (.iadd, 1) := by decide +kernel
theorem d_L_law_523 : decode b_L_law 523 = .ok (.iaload, 1) := by decide +kernel
theorem d_L_law_524 : decode b_L_law 524 = .ok (.aload_n 0, 1) := by decide +kernel
theorem d_L_law_525 : decode b_L_law 525 = .ok (.iload 4, 2) := by decide +kernel
theorem d_L_law_527 : decode b_L_law 527 = .ok (.iconst 2, 1) := by decide +kernel
theorem d_L_law_528 : decode b_L_law 528 = .ok (.iadd, 1) := by decide +kernel
theorem d_L_law_529 : decode b_L_law 529 = .ok (.iaload, 1) := by decide +kernel
theorem d_L_law_530 : decode b_L_law 530 = .ok (.aload_n 0, 1) := by decide +kernel
theorem d_L_law_531 : decode b_L_law 531 = .ok (.iload 4, 2) := by decide +kernel
theorem d_L_law_533 : decode b_L_law 533 = .ok (.iconst 3, 1) := by decide +kernel
theorem d_L_law_534 : decode b_L_law 534 = .ok (.iadd, 1) := by decide +kernel
theorem d_L_law_535 : decode b_L_law 535 = .ok (.iaload, 1) := by decide +kernel
theorem d_L_law_536 : decode b_L_law 536 = .ok (.invokevirtual 113, 3) := by decide +kernel
theorem d_L_law_539 : decode b_L_law 539 = .ok (.istore 6, 2) := by decide +kernel
theorem d_L_law_541 : decode b_L_law 541 = .ok (.aload_n 2, 1) := by decide +kernel
theorem d_L_law_542 : decode b_L_law 542 = .ok (.invokevirtual 92, 3) := by decide +kernel
theorem d_L_law_545 : decode b_L_law 545 = .ok (.iload 5, 2) := by decide +kernel
theorem d_L_law_547 : decode b_L_law 547 = .ok (.if_icmp .eq 5, 3) := by decide +kernel
theorem d_L_law_550 : decode b_L_law 550 = .ok (.iconst 0, 1) := by decide +kernel
theorem d_L_law_551 : decode b_L_law 551 = .ok (.ireturn, 1) := by decide +kernel
theorem d_L_law_552 : decode b_L_law 552 = .ok (.iload 5, 2) := by decide +kernel
theorem d_L_law_554 : decode b_L_law 554 = .ok (.ifCond .ne 15, 3) := by decide +kernel
theorem d_L_law_557 : decode b_L_law 557 = .ok (.aload_n 3, 1) := by decide +kernel
theorem d_L_law_558 : decode b_L_law 558 = .ok (.iconst 0, 1) := by decide +kernel
theorem d_L_law_559 : decode b_L_law 559 = .ok (.laload, 1) := by decide +kernel
theorem d_L_law_560 : decode b_L_law 560 = .ok (.iload 6, 2) := by decide +kernel
theorem d_L_law_562 : decode b_L_law 562 = .ok (.i2l, 1) := by decide +kernel
theorem d_L_law_563 : decode b_L_law 563 = .ok (.lcmp, 1) := by decide +kernel
theorem d_L_law_564 : decode b_L_law 564 = .ok (.ifCond .eq 5, 3) := by decide +kernel
theorem d_L_law_567 : decode b_L_law 567 = .ok (.iconst 0, 1) := by decide +kernel
theorem d_L_law_568 : decode b_L_law 568 = .ok (.ireturn, 1) := by decide +kernel
theorem d_L_law_569 : decode b_L_law 569 = .ok (.goto 1000, 3) := by decide +kernel
theorem d_L_law_572 : decode b_L_law 572 = .ok (.aload_n 1, 1) := by decide +kernel
theorem d_L_law_573 : decode b_L_law 573 = .ok (.aload_n 0, 1) := by decide +kernel
theorem d_L_law_574 : decode b_L_law 574 = .ok (.iload 4, 2) := by decide +kernel
theorem d_L_law_576 : decode b_L_law 576 = .ok (.iconst 1, 1) := by decide +kernel
theorem d_L_law_577 : decode b_L_law 577 = .ok (.iadd, 1) := by decide +kernel
theorem d_L_law_578 : decode b_L_law 578 = .ok (.iaload, 1) := by decide +kernel
theorem d_L_law_579 : decode b_L_law 579 = .ok (.aload_n 0, 1) := by decide +kernel
theorem d_L_law_580 : decode b_L_law 580 = .ok (.iload 4, 2) := by decide +kernel
theorem d_L_law_582 : decode b_L_law 582 = .ok (.iconst 2, 1) := by decide +kernel
theorem d_L_law_583 : decode b_L_law 583 = .ok (.iadd, 1) := by decide +kernel
theorem d_L_law_584 : decode b_L_law 584 = .ok (.iaload, 1) := by decide +kernel
theorem d_L_law_585 : decode b_L_law 585 = .ok (.aload_n 0, 1) := by decide +kernel
theorem d_L_law_586 : decode b_L_law 586 = .ok (.iload 4, 2) := by decide +kernel
theorem d_L_law_588 : decode b_L_law 588 = .ok (.iconst 3, 1) := by decide +kernel
theorem d_L_law_589 : decode b_L_law 589 = .ok (.iadd, 1) := by decide +kernel
theorem d_L_law_590 : decode b_L_law 590 = .ok (.iaload, 1) := by decide +kernel
theorem d_L_law_591 : decode b_L_law 591 = .ok (.aload_n 3, 1) := by decide +kernel
theorem d_L_law_592 : decode b_L_law 592 = .ok (.invokestatic 114, 3) := by decide +kernel
theorem d_L_law_595 : decode b_L_law 595 = .ok (.istore 5, 2) := by decide +kernel
theorem d_L_law_597 : decode b_L_law 597 = .ok (.aload_n 2, 1) := by decide +kernel
theorem d_L_law_598 : decode b_L_law 598 = .ok (.aload_n 0, 1) := by decide +kernel
theorem d_L_law_599 : decode b_L_law 599 = .ok (.iload 4, 2) := by decide +kernel
theorem d_L_law_601 : decode b_L_law 601 = .ok (.iconst 1, 1) := by decide +kernel
theorem d_L_law_602 : decode b_L_law 602 = .ok (.iadd, 1) := by decide +kernel
theorem d_L_law_603 : decode b_L_law 603 = .ok (.iaload, 1) := by decide +kernel
theorem d_L_law_604 : decode b_L_law 604 = .ok (.aload_n 0, 1) := by decide +kernel
theorem d_L_law_605 : decode b_L_law 605 = .ok (.iload 4, 2) := by decide +kernel
theorem d_L_law_607 : decode b_L_law 607 = .ok (.iconst 2, 1) := by decide +kernel
theorem d_L_law_608 : decode b_L_law 608 = .ok (.iadd, 1) := by decide +kernel
theorem d_L_law_609 : decode b_L_law 609 = .ok (.iaload, 1) := by decide +kernel
theorem d_L_law_610 : decode b_L_law 610 = .ok (.aload_n 0, 1) := by decide +kernel
theorem d_L_law_611 : decode b_L_law 611 = .ok (.iload 4, 2) := by decide +kernel
theorem d_L_law_613 : decode b_L_law 613 = .ok (.iconst 3, 1) := by decide +kernel
theorem d_L_law_614 : decode b_L_law 614 = .ok (.iadd, 1) := by decide +kernel
theorem d_L_law_615 : decode b_L_law 615 = .ok (.iaload, 1) := by decide +kernel
theorem d_L_law_616 : decode b_L_law 616 = .ok (.invokevirtual 116, 3) := by decide +kernel
theorem d_L_law_619 : decode b_L_law 619 = .ok (.istore 6, 2) := by decide +kernel
theorem d_L_law_621 : decode b_L_law 621 = .ok (.aload_n 2, 1) := by decide +kernel
theorem d_L_law_622 : decode b_L_law 622 = .ok (.invokevirtual 92, 3) := by decide +kernel
theorem d_L_law_625 : decode b_L_law 625 = .ok (.iload 5, 2) := by decide +kernel
theorem d_L_law_627 : decode b_L_law 627 = .ok (.if_icmp .eq 5, 3) := by decide +kernel
theorem d_L_law_630 : decode b_L_law 630 = .ok (.iconst 0, 1) := by decide +kernel
theorem d_L_law_631 : decode b_L_law 631 = .ok (.ireturn, 1) := by decide +kernel
theorem d_L_law_632 : decode b_L_law 632 = .ok (.iload 5, 2) := by decide +kernel
theorem d_L_law_634 : decode b_L_law 634 = .ok (.ifCond .ne 15, 3) := by decide +kernel
theorem d_L_law_637 : decode b_L_law 637 = .ok (.aload_n 3, 1) := by decide +kernel
theorem d_L_law_638 : decode b_L_law 638 = .ok (.iconst 0, 1) := by decide +kernel
theorem d_L_law_639 : decode b_L_law 639 = .ok (.laload, 1) := by decide +kernel
theorem d_L_law_640 : decode b_L_law 640 = .ok (.iload 6, 2) := by decide +kernel
theorem d_L_law_642 : decode b_L_law 642 = .ok (.i2l, 1) := by decide +kernel
theorem d_L_law_643 : decode b_L_law 643 = .ok (.lcmp, 1) := by decide +kernel
theorem d_L_law_644 : decode b_L_law 644 = .ok (.ifCond .eq 5, 3) := by decide +kernel
theorem d_L_law_647 : decode b_L_law 647 = .ok (.iconst 0, 1) := by decide +kernel
theorem d_L_law_648 : decode b_L_law 648 = .ok (.ireturn, 1) := by decide +kernel
theorem d_L_law_649 : decode b_L_law 649 = .ok (.goto 920, 3) := by decide +kernel
theorem d_L_law_652 : decode b_L_law 652 = .ok (.aload_n 1, 1) := by decide +kernel
theorem d_L_law_653 : decode b_L_law 653 = .ok (.aload_n 0, 1) := by decide +kernel
theorem d_L_law_654 : decode b_L_law 654 = .ok (.iload 4, 2) := by decide +kernel
theorem d_L_law_656 : decode b_L_law 656 = .ok (.iconst 1, 1) := by decide +kernel
theorem d_L_law_657 : decode b_L_law 657 = .ok (.iadd, 1) := by decide +kernel
theorem d_L_law_658 : decode b_L_law 658 = .ok (.iaload, 1) := by decide +kernel
theorem d_L_law_659 : decode b_L_law 659 = .ok (.aload_n 0, 1) := by decide +kernel
theorem d_L_law_660 : decode b_L_law 660 = .ok (.iload 4, 2) := by decide +kernel
theorem d_L_law_662 : decode b_L_law 662 = .ok (.iconst 2, 1) := by decide +kernel
theorem d_L_law_663 : decode b_L_law 663 = .ok (.iadd, 1) := by decide +kernel
theorem d_L_law_664 : decode b_L_law 664 = .ok (.iaload, 1) := by decide +kernel
theorem d_L_law_665 : decode b_L_law 665 = .ok (.aload_n 0, 1) := by decide +kernel
theorem d_L_law_666 : decode b_L_law 666 = .ok (.iload 4, 2) := by decide +kernel
theorem d_L_law_668 : decode b_L_law 668 = .ok (.iconst 3, 1) := by decide +kernel
theorem d_L_law_669 : decode b_L_law 669 = .ok (.iadd, 1) := by decide +kernel
theorem d_L_law_670 : decode b_L_law 670 = .ok (.iaload, 1) := by decide +kernel
theorem d_L_law_671 : decode b_L_law 671 = .ok (.aload_n 3, 1) := by decide +kernel
theorem d_L_law_672 : decode b_L_law 672 = .ok (.invokestatic 117, 3) := by decide +kernel
theorem d_L_law_675 : decode b_L_law 675 = .ok (.istore 5, 2) := by decide +kernel
theorem d_L_law_677 : decode b_L_law 677 = .ok (.aload_n 2, 1) := by decide +kernel
theorem d_L_law_678 : decode b_L_law 678 = .ok (.aload_n 0, 1) := by decide +kernel
theorem d_L_law_679 : decode b_L_law 679 = .ok (.iload 4, 2) := by decide +kernel
theorem d_L_law_681 : decode b_L_law 681 = .ok (.iconst 1, 1) := by decide +kernel
theorem d_L_law_682 : decode b_L_law 682 = .ok (.iadd, 1) := by decide +kernel
