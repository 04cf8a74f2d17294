theorem d_P_init_0 : decode b_P_init 0 = .ok (.aload_n 0, 1) := by decide +kernel
theorem d_P_init_1 : decode b_P_init 1 = .ok (.invokespecial 3, 3) := by decide +kernel
theorem d_P_init_4 : decode b_P_init 4 = .ok (.aload_n 0, 1) := by decide +kernel
theorem d_P_init_5 : decode b_P_init 5 = .ok (.new 9, 3) := by decide +kernel
theorem d_P_init_8 : decode b_P_init 8 = .ok (.dup, 1) := by decide +kernel
theorem d_P_init_9 : decode b_P_init 9 = .ok (.invokespecial 11, 3) := by decide +kernel
theorem d_P_init_12 : decode b_P_init 12 = .ok (.putfield 12, 3) := by decide +kernel
theorem d_P_init_15 : decode b_P_init 15 = .ok (.aload_n 0, 1) := by decide +kernel
theorem d_P_init_16 : decode b_P_init 16 = .ok (.new 16, 3) := by decide +kernel
theorem d_P_init_19 : decode b_P_init 19 = .ok (.dup, 1) := by decide +kernel
theorem d_P_init_20 : decode b_P_init 20 = .ok (.invokespecial 18, 3) := by decide +kernel
theorem d_P_init_23 : decode b_P_init 23 = .ok (.putfield 19, 3) := by decide +kernel
theorem d_P_init_26 : decode b_P_init 26 = .ok (.aload_n 0, 1) := by decide +kernel
theorem d_P_init_27 : decode b_P_init 27 = .ok (.new 23, 3) := by decide +kernel
theorem d_P_init_30 : decode b_P_init 30 = .ok (.dup, 1) := by decide +kernel
theorem d_P_init_31 : decode b_P_init 31 = .ok (.invokespecial 25, 3) := by decide +kernel
theorem d_P_init_34 : decode b_P_init 34 = .ok (.putfield 26, 3) := by decide +kernel
theorem d_P_init_37 : decode b_P_init 37 = .ok (.aload_n 0, 1) := by decide +kernel
theorem d_P_init_38 : decode b_P_init 38 = .ok (.new 30, 3) := by decide +kernel
theorem d_P_init_41 : decode b_P_init 41 = .ok (.dup, 1) := by decide +kernel
theorem d_P_init_42 : decode b_P_init 42 = .ok (.invokespecial 32, 3) := by decide +kernel
theorem d_P_init_45 : decode b_P_init 45 = .ok (.putfield 33, 3) := by decide +kernel
theorem d_P_init_48 : decode b_P_init 48 = .ok (.aload_n 0, 1) := by decide +kernel
theorem d_P_init_49 : decode b_P_init 49 = .ok (.new 30, 3) := by decide +kernel
theorem d_P_init_52 : decode b_P_init 52 = .ok (.dup, 1) := by decide +kernel
theorem d_P_init_53 : decode b_P_init 53 = .ok (.invokespecial 32, 3) := by decide +kernel
theorem d_P_init_56 : decode b_P_init 56 = .ok (.putfield 37, 3) := by decide +kernel
theorem d_P_init_59 : decode b_P_init 59 = .ok (.aload_n 0, 1) := by decide +kernel
theorem d_P_init_60 : decode b_P_init 60 = .ok (.new 30, 3) := by decide +kernel
theorem d_P_init_63 : decode b_P_init 63 = .ok (.dup, 1) := by decide +kernel
theorem d_P_init_64 : decode b_P_init 64 = .ok (.invokespecial 32, 3) := by decide +kernel
theorem d_P_init_67 : decode b_P_init 67 = .ok (.putfield 40, 3) := by decide +kernel
theorem d_P_init_70 : decode b_P_init 70 = .ok (.aload_n 0, 1) := by decide +kernel
theorem d_P_init_71 : decode b_P_init 71 = .ok (.new 30, 3) := by decide +kernel
theorem d_P_init_74 : decode b_P_init 74 = .ok (.dup, 1) := by decide +kernel
theorem d_P_init_75 : decode b_P_init 75 = .ok (.invokespecial 32, 3) := by decide +kernel
theorem d_P_init_78 : decode b_P_init 78 = .ok (.putfield 43, 3) := by decide +kernel
theorem d_P_init_81 : decode b_P_init 81 = .ok (.return_, 1) := by decide +kernel
theorem d_P_set_0 : decode b_P_set 0 = .ok (.aload_n 0, 1) := by decide +kernel
theorem d_P_set_1 : decode b_P_set 1 = .ok (.iload_n 1, 1) := by decide +kernel
theorem d_P_set_2 : decode b_P_set 2 = .ok (.invokevirtual 46, 3) := by decide +kernel
theorem d_P_set_5 : decode b_P_set 5 = .ok (.aload_n 0, 1) := by decide +kernel
theorem d_P_set_6 : decode b_P_set 6 = .ok (.getfield 33, 3) := by decide +kernel
theorem d_P_set_9 : decode b_P_set 9 = .ok (.lload_n 2, 1) := by decide +kernel
theorem d_P_set_10 : decode b_P_set 10 = .ok (.invokevirtual 50, 3) := by decide +kernel
theorem d_P_set_13 : decode b_P_set 13 = .ok (.aload_n 0, 1) := by decide +kernel
theorem d_P_set_14 : decode b_P_set 14 = .ok (.iload_n 1, 1) := by decide +kernel
theorem d_P_set_15 : decode b_P_set 15 = .ok (.aload_n 0, 1) := by decide +kernel
theorem d_P_set_16 : decode b_P_set 16 = .ok (.getfield 33, 3) := by decide +kernel
theorem d_P_set_19 : decode b_P_set 19 = .ok (.invokevirtual 54, 3) := by decide +kernel
theorem d_P_set_22 : decode b_P_set 22 = .ok (.ireturn, 1) := by decide +kernel
theorem d_P_push_0 : decode b_P_push 0 = .ok (.aload_n 0, 1) := by decide +kernel
theorem d_P_push_1 : decode b_P_push 1 = .ok (.iload_n 1, 1) := by decide +kernel
theorem d_P_push_2 : decode b_P_push 2 = .ok (.invokevirtual 46, 3) := by decide +kernel
theorem d_P_push_5 : decode b_P_push 5 = .ok (.aload_n 0, 1) := by decide +kernel
theorem d_P_push_6 : decode b_P_push 6 = .ok (.getfield 12, 3) := by decide +kernel
theorem d_P_push_9 : decode b_P_push 9 = .ok (.iload_n 1, 1) := by decide +kernel
theorem d_P_push_10 : decode b_P_push 10 = .ok (.aload_n 0, 1) := by decide +kernel
theorem d_P_push_11 : decode b_P_push 11 = .ok (.getfield 33, 3) := by decide +kernel
theorem d_P_push_14 : decode b_P_push 14 = .ok (.invokevirtual 58, 3) := by decide +kernel
theorem d_P_push_17 : decode b_P_push 17 = .ok (.aload_n 0, 1) := by decide +kernel
theorem d_P_push_18 : decode b_P_push 18 = .ok (.getfield 33, 3) := by decide +kernel
theorem d_P_push_21 : decode b_P_push 21 = .ok (.iload_n 2, 1) := by decide +kernel
theorem d_P_push_22 : decode b_P_push 22 = .ok (.invokevirtual 62, 3) := by decide +kernel
theorem d_P_push_25 : decode b_P_push 25 = .ok (.aload_n 0, 1) := by decide +kernel
theorem d_P_push_26 : decode b_P_push 26 = .ok (.iload_n 1, 1) := by decide +kernel
theorem d_P_push_27 : decode b_P_push 27 = .ok (.aload_n 0, 1) := by decide +kernel
theorem d_P_push_28 : decode b_P_push 28 = .ok (.getfield 33, 3) := by decide +kernel
theorem d_P_push_31 : decode b_P_push 31 = .ok (.invokevirtual 54, 3) := by decide +kernel
theorem d_P_push_34 : decode b_P_push 34 = .ok (.ireturn, 1) := by decide +kernel
theorem d_P_copy_0 : decode b_P_copy 0 = .ok (.aload_n 0, 1) := by decide +kernel
theorem d_P_copy_1 : decode b_P_copy 1 = .ok (.iload_n 1, 1) := by decide +kernel
theorem d_P_copy_2 : decode b_P_copy 2 = .ok (.iload_n 2, 1) := by decide +kernel
theorem d_P_copy_3 : decode b_P_copy 3 = .ok (.invokevirtual 65, 3) := by decide +kernel
theorem d_P_copy_6 : decode b_P_copy 6 = .ok (.aload_n 0, 1) := by decide +kernel
theorem d_P_copy_7 : decode b_P_copy 7 = .ok (.getfield 12, 3) := by decide +kernel
theorem d_P_copy_10 : decode b_P_copy 10 = .ok (.iload_n 2, 1) := by decide +kernel
theorem d_P_copy_11 : decode b_P_copy 11 = .ok (.aload_n 0, 1) := by decide +kernel
theorem d_P_copy_12 : decode b_P_copy 12 = .ok (.getfield 33, 3) := by decide +kernel
theorem d_P_copy_15 : decode b_P_copy 15 = .ok (.invokevirtual 58, 3) := by decide +kernel
theorem d_P_copy_18 : decode b_P_copy 18 = .ok (.aload_n 0, 1) := by decide +kernel
theorem d_P_copy_19 : decode b_P_copy 19 = .ok (.iload_n 1, 1) := by decide +kernel
theorem d_P_copy_20 : decode b_P_copy 20 = .ok (.aload_n 0, 1) := by decide +kernel
theorem d_P_copy_21 : decode b_P_copy 21 = .ok (.getfield 33, 3) := by decide +kernel
theorem d_P_copy_24 : decode b_P_copy 24 = .ok (.invokevirtual 54, 3) := by decide +kernel
theorem d_P_copy_27 : decode b_P_copy 27 = .ok (.ireturn, 1) := by decide +kernel
theorem d_P_swap_0 : decode b_P_swap 0 = .ok (.aload_n 0, 1) := by decide +kernel
theorem d_P_swap_1 : decode b_P_swap 1 = .ok (.iload_n 1, 1) := by decide +kernel
theorem d_P_swap_2 : decode b_P_swap 2 = .ok (.iload_n 2, 1) := by decide +kernel
theorem d_P_swap_3 : decode b_P_swap 3 = .ok (.invokevirtual 65, 3) := by decide +kernel
theorem d_P_swap_6 : decode b_P_swap 6 = .ok (.aload_n 0, 1) := by decide +kernel
theorem d_P_swap_7 : decode b_P_swap 7 = .ok (.getfield 12, 3) := by decide +kernel
theorem d_P_swap_10 : decode b_P_swap 10 = .ok (.iload_n 1, 1) := by decide +kernel
theorem d_P_swap_11 : decode b_P_swap 11 = .ok (.iload_n 2, 1) := by decide +kernel
theorem d_P_swap_12 : decode b_P_swap 12 = .ok (.invokevirtual 69, 3) := by decide +kernel
theorem d_P_swap_15 : decode b_P_swap 15 = .ok (.aload_n 0, 1) := by decide +kernel
theorem d_P_swap_16 : decode b_P_swap 16 = .ok (.iload_n 1, 1) := by decide +kernel
theorem d_P_swap_17 : decode b_P_swap 17 = .ok (.invokevirtual 72, 3) := by decide +kernel
theorem d_P_swap_20 : decode b_P_swap 20 = .ok (.ireturn, 1) := by decide +kernel
theorem d_P_negate_0 : decode b_P_negate 0 = .ok (.aload_n 0, 1) := by decide +kernel
theorem d_P_negate_1 : decode b_P_negate 1 = .ok (.iload_n 1, 1) := by decide +kernel
theorem d_P_negate_2 : decode b_P_negate 2 = .ok (.invokevirtual 46, 3) := by decide +kernel
theorem d_P_negate_5 : decode b_P_negate 5 = .ok (.aload_n 0, 1) := by decide +kernel
theorem d_P_negate_6 : decode b_P_negate 6 = .ok (.getfield 12, 3) := by decide +kernel
theorem d_P_negate_9 : decode b_P_negate 9 = .ok (.iload_n 1, 1) := by decide +kernel
theorem d_P_negate_10 : decode b_P_negate 10 = .ok (.invokevirtual 76, 3) := by decide +kernel
theorem d_P_negate_13 : decode b_P_negate 13 = .ok (.aload_n 0, 1) := by decide +kernel
theorem d_P_negate_14 : decode b_P_negate 14 = .ok (.iload_n 1, 1) := by decide +kernel
theorem d_P_negate_15 : decode b_P_negate 15 = .ok (.invokevirtual 72, 3) := by decide +kernel
theorem d_P_negate_18 : decode b_P_negate 18 = .ok (.ireturn, 1) := by decide +kernel
theorem d_P_add_0 : decode b_P_add 0 = .ok (.aload_n 0, 1) := by decide +kernel
theorem d_P_add_1 : decode b_P_add 1 = .ok (.iload_n 1, 1) := by decide +kernel
theorem d_P_add_2 : decode b_P_add 2 = .ok (.iload_n 2, 1) := by decide +kernel
theorem d_P_add_3 : decode b_P_add 3 = .ok (.iload_n 3, 1) := by decide +kernel
theorem d_P_add_4 : decode b_P_add 4 = .ok (.iconst 0, 1) := by decide +kernel
theorem d_P_add_5 : decode b_P_add 5 = .ok (.invokevirtual 79, 3) := by decide +kernel
theorem d_P_add_8 : decode b_P_add 8 = .ok (.ireturn, 1) := by decide +kernel
theorem d_P_subtract_0 : decode b_P_subtract 0 = .ok (.aload_n 0, 1) := by decide +kernel
theorem d_P_subtract_1 : decode b_P_subtract 1 = .ok (.iload_n 1, 1) := by decide +kernel
theorem d_P_subtract_2 : decode b_P_subtract 2 = .ok (.iload_n 2, 1) := by decide +kernel
theorem d_P_subtract_3 : decode b_P_subtract 3 = .ok (.iload_n 3, 1) := by decide +kernel
theorem d_P_subtract_4 : decode b_P_subtract 4 = .ok (.iconst 1, 1) := by decide +kernel
theorem d_P_subtract_5 : decode b_P_subtract 5 = .ok (.invokevirtual 79, 3) := by decide +kernel
theorem d_P_subtract_8 : decode b_P_subtract 8 = .ok (.ireturn, 1) := by decide +kernel
theorem d_P_multiply_0 : decode b_P_multiply 0 = .ok (.aload_n 0, 1) := by decide +kernel
theorem d_P_multiply_1 : decode b_P_multiply 1 = .ok (.iload_n 1, 1) := by decide +kernel
theorem d_P_multiply_2 : decode b_P_multiply 2 = .ok (.invokevirtual 46, 3) := by decide +kernel
theorem d_P_multiply_5 : decode b_P_multiply 5 = .ok (.aload_n 0, 1) := by decide +kernel
theorem d_P_multiply_6 : decode b_P_multiply 6 = .ok (.iload_n 2, 1) := by decide +kernel
theorem d_P_multiply_7 : decode b_P_multiply 7 = .ok (.iload_n 3, 1) := by decide +kernel
theorem d_P_multiply_8 : decode b_P_multiply 8 = .ok (.invokevirtual 65, 3) := by decide +kernel
theorem d_P_multiply_11 : decode b_P_multiply 11 = .ok (.aload_n 0, 1) := by decide +kernel
theorem d_P_multiply_12 : decode b_P_multiply 12 = .ok (.iload_n 2, 1) := by decide +kernel
theorem d_P_multiply_13 : decode b_P_multiply 13 = .ok (.iload_n 3, 1) := by decide +kernel
theorem d_P_multiply_14 : decode b_P_multiply 14 = .ok (.invokevirtual 83, 3) := by decide +kernel
theorem d_P_multiply_17 : decode b_P_multiply 17 = .ok (.aload_n 0, 1) := by decide +kernel
theorem d_P_multiply_18 : decode b_P_multiply 18 = .ok (.aload_n 0, 1) := by decide +kernel
theorem d_P_multiply_19 : decode b_P_multiply 19 = .ok (.invokevirtual 86, 3) := by decide +kernel
theorem d_P_multiply_22 : decode b_P_multiply 22 = .ok (.invokevirtual 90, 3) := by decide +kernel
theorem d_P_multiply_25 : decode b_P_multiply 25 = .ok (.aload_n 0, 1) := by decide +kernel
theorem d_P_multiply_26 : decode b_P_multiply 26 = .ok (.getfield 40, 3) := by decide +kernel
theorem d_P_multiply_29 : decode b_P_multiply 29 = .ok (.aload_n 0, 1) := by decide +kernel
theorem d_P_multiply_30 : decode b_P_multiply 30 = .ok (.getfield 33, 3) := by decide +kernel
theorem d_P_multiply_33 : decode b_P_multiply 33 = .ok (.aload_n 0, 1) := by decide +kernel
theorem d_P_multiply_34 : decode b_P_multiply 34 = .ok (.getfield 37, 3) := by decide +kernel
theorem d_P_multiply_37 : decode b_P_multiply 37 = .ok (.invokevirtual 93, 3) := by decide +kernel
theorem d_P_multiply_40 : decode b_P_multiply 40 = .ok (.aload_n 0, 1) := by decide +kernel
theorem d_P_multiply_41 : decode b_P_multiply 41 = .ok (.iload_n 1, 1) := by decide +kernel
theorem d_P_multiply_42 : decode b_P_multiply 42 = .ok (.aload_n 0, 1) := by decide +kernel
theorem d_P_multiply_43 : decode b_P_multiply 43 = .ok (.getfield 40, 3) := by decide +kernel
theorem d_P_multiply_46 : decode b_P_multiply 46 = .ok (.invokevirtual 54, 3) := by decide +kernel
theorem d_P_multiply_49 : decode b_P_multiply 49 = .ok (.ireturn, 1) := by decide +kernel
theorem d_P_addProduct_0 : decode b_P_addProduct 0 = .ok (.aload_n 0, 1) := by decide +kernel
theorem d_P_addProduct_1 : decode b_P_addProduct 1 = .ok (.iload_n 1, 1) := by decide +kernel
theorem d_P_addProduct_2 : decode b_P_addProduct 2 = .ok (.invokevirtual 46, 3) := by decide +kernel
theorem d_P_addProduct_5 : decode b_P_addProduct 5 = .ok (.aload_n 0, 1) := by decide +kernel
theorem d_P_addProduct_6 : decode b_P_addProduct 6 = .ok (.iload_n 2, 1) := by decide +kernel
theorem d_P_addProduct_7 : decode b_P_addProduct 7 = .ok (.iload_n 3, 1) := by decide +kernel
theorem d_P_addProduct_8 : decode b_P_addProduct 8 = .ok (.invokevirtual 65, 3) := by decide +kernel
theorem d_P_addProduct_11 : decode b_P_addProduct 11 = .ok (.aload_n 0, 1) := by decide +kernel
theorem d_P_addProduct_12 : decode b_P_addProduct 12 = .ok (.iload_n 2, 1) := by decide +kernel
theorem d_P_addProduct_13 : decode b_P_addProduct 13 = .ok (.iload_n 3, 1) := by decide +kernel
theorem d_P_addProduct_14 : decode b_P_addProduct 14 = .ok (.invokevirtual 83, 3) := by decide +kernel
theorem d_P_addProduct_17 : decode b_P_addProduct 17 = .ok (.aload_n 0, 1) := by decide +kernel
theorem d_P_addProduct_18 : decode b_P_addProduct 18 = .ok (.aload_n 0, 1) := by decide +kernel
theorem d_P_addProduct_19 : decode b_P_addProduct 19 = .ok (.invokevirtual 86, 3) := by decide +kernel
theorem d_P_addProduct_22 : decode b_P_addProduct 22 = .ok (.iconst 1, 1) := by decide +kernel
theorem d_P_addProduct_23 : decode b_P_addProduct 23 = .ok (.isub, 1) := by decide +kernel
theorem d_P_addProduct_24 : decode b_P_addProduct 24 = .ok (.invokevirtual 90, 3) := by decide +kernel
theorem d_P_addProduct_27 : decode b_P_addProduct 27 = .ok (.aload_n 0, 1) := by decide +kernel
theorem d_P_addProduct_28 : decode b_P_addProduct 28 = .ok (.getfield 40, 3) := by decide +kernel
theorem d_P_addProduct_31 : decode b_P_addProduct 31 = .ok (.aload_n 0, 1) := by decide +kernel
theorem d_P_addProduct_32 : decode b_P_addProduct 32 = .ok (.getfield 33, 3) := by decide +kernel
theorem d_P_addProduct_35 : decode b_P_addProduct 35 = .ok (.aload_n 0, 1) := by decide +kernel
theorem d_P_addProduct_36 : decode b_P_addProduct 36 = .ok (.getfield 37, 3) := by decide +kernel
theorem d_P_addProduct_39 : decode b_P_addProduct 39 = .ok (.invokevirtual 93, 3) := by decide +kernel
theorem d_P_addProduct_42 : decode b_P_addProduct 42 = .ok (.aload_n 0, 1) := by decide +kernel
theorem d_P_addProduct_43 : decode b_P_addProduct 43 = .ok (.getfield 12, 3) := by decide +kernel
theorem d_P_addProduct_46 : decode b_P_addProduct 46 = .ok (.iload_n 1, 1) := by decide +kernel
theorem d_P_addProduct_47 : decode b_P_addProduct 47 = .ok (.aload_n 0, 1) := by decide +kernel
theorem d_P_addProduct_48 : decode b_P_addProduct 48 = .ok (.getfield 33, 3) := by decide +kernel
theorem d_P_addProduct_51 : decode b_P_addProduct 51 = .ok (.invokevirtual 58, 3) := by decide +kernel
theorem d_P_addProduct_54 : decode b_P_addProduct 54 = .ok (.aload_n 0, 1) := by decide +kernel
theorem d_P_addProduct_55 : decode b_P_addProduct 55 = .ok (.getfield 43, 3) := by decide +kernel
theorem d_P_addProduct_58 : decode b_P_addProduct 58 = .ok (.aload_n 0, 1) := by decide +kernel
theorem d_P_addProduct_59 : decode b_P_addProduct 59 = .ok (.getfield 33, 3) := by decide +kernel
theorem d_P_addProduct_62 : decode b_P_addProduct 62 = .ok (.aload_n 0, 1) := by decide +kernel
theorem d_P_addProduct_63 : decode b_P_addProduct 63 = .ok (.getfield 40, 3) := by decide +kernel
theorem d_P_addProduct_66 : decode b_P_addProduct 66 = .ok (.iload 4, 2) := by decide +kernel
theorem d_P_addProduct_68 : decode b_P_addProduct 68 = .ok (.invokevirtual 97, 3) := by decide +kernel
theorem d_P_addProduct_71 : decode b_P_addProduct 71 = .ok (.aload_n 0, 1) := by decide +kernel
theorem d_P_addProduct_72 : decode b_P_addProduct 72 = .ok (.iload_n 1, 1) := by decide +kernel
theorem d_P_addProduct_73 : decode b_P_addProduct 73 = .ok (.aload_n 0, 1) := by decide +kernel
theorem d_P_addProduct_74 : decode b_P_addProduct 74 = .ok (.getfield 43, 3) := by decide +kernel
theorem d_P_addProduct_77 : decode b_P_addProduct 77 = .ok (.invokevirtual 54, 3) := by decide +kernel
theorem d_P_addProduct_80 : decode b_P_addProduct 80 = .ok (.ireturn, 1) := by decide +kernel
theorem d_P_divide_0 : decode b_P_divide 0 = .ok (.aload_n 0, 1) := by decide +kernel
theorem d_P_divide_1 : decode b_P_divide 1 = .ok (.iload_n 1, 1) := by decide +kernel
theorem d_P_divide_2 : decode b_P_divide 2 = .ok (.iload_n 2, 1) := by decide +kernel
theorem d_P_divide_3 : decode b_P_divide 3 = .ok (.invokevirtual 65, 3) := by decide +kernel
theorem d_P_divide_6 : decode b_P_divide 6 = .ok (.aload_n 0, 1) := by decide +kernel
theorem d_P_divide_7 : decode b_P_divide 7 = .ok (.iload_n 3, 1) := by decide +kernel
theorem d_P_divide_8 : decode b_P_divide 8 = .ok (.iload 4, 2) := by decide +kernel
theorem d_P_divide_10 : decode b_P_divide 10 = .ok (.invokevirtual 65, 3) := by decide +kernel
theorem d_P_divide_13 : decode b_P_divide 13 = .ok (.iload_n 1, 1) := by decide +kernel
theorem d_P_divide_14 : decode b_P_divide 14 = .ok (.iload_n 2, 1) := by decide +kernel
theorem d_P_divide_15 : decode b_P_divide 15 = .ok (.if_icmp .ne 13, 3) := by decide +kernel
theorem d_P_divide_18 : decode b_P_divide 18 = .ok (.new 101, 3) := by decide +kernel
theorem d_P_divide_21 : decode b_P_divide 21 = .ok (.dup, 1) := by decide +kernel
theorem d_P_divide_22 : decode b_P_divide 22 = .ok (.ldc 103, 2) := by decide +kernel
theorem d_P_divide_24 : decode b_P_divide 24 = .ok (.invokespecial 105, 3) := by decide +kernel
theorem d_P_divide_27 : decode b_P_divide 27 = .ok (.athrow, 1) := by decide +kernel
theorem d_P_divide_28 : decode b_P_divide 28 = .ok (.aload_n 0, 1) := by decide +kernel
theorem d_P_divide_29 : decode b_P_divide 29 = .ok (.iload_n 3, 1) := by decide +kernel
theorem d_P_divide_30 : decode b_P_divide 30 = .ok (.iload 4, 2) := by decide +kernel
theorem d_P_divide_32 : decode b_P_divide 32 = .ok (.invokevirtual 83, 3) := by decide +kernel
theorem d_P_divide_35 : decode b_P_divide 35 = .ok (.aload_n 0, 1) := by decide +kernel
theorem d_P_divide_36 : decode b_P_divide 36 = .ok (.invokevirtual 108, 3) := by decide +kernel
theorem d_P_divide_39 : decode b_P_divide 39 = .ok (.aload_n 0, 1) := by decide +kernel
theorem d_P_divide_40 : decode b_P_divide 40 = .ok (.getfield 33, 3) := by decide +kernel
theorem d_P_divide_43 : decode b_P_divide 43 = .ok (.getfield 111, 3) := by decide +kernel
theorem d_P_divide_46 : decode b_P_divide 46 = .ok (.istore 5, 2) := by decide +kernel
theorem d_P_divide_48 : decode b_P_divide 48 = .ok (.aload_n 0, 1) := by decide +kernel
theorem d_P_divide_49 : decode b_P_divide 49 = .ok (.getfield 33, 3) := by decide +kernel
theorem d_P_divide_52 : decode b_P_divide 52 = .ok (.aload_n 0, 1) := by decide +kernel
theorem d_P_divide_53 : decode b_P_divide 53 = .ok (.getfield 37, 3) := by decide +kernel
theorem d_P_divide_56 : decode b_P_divide 56 = .ok (.aload_n 0, 1) := by decide +kernel
theorem d_P_divide_57 : decode b_P_divide 57 = .ok (.getfield 40, 3) := by decide +kernel
theorem d_P_divide_60 : decode b_P_divide 60 = .ok (.invokestatic 115, 3) := by decide +kernel
theorem d_P_divide_63 : decode b_P_divide 63 = .ok (.iload 5, 2) := by decide +kernel
theorem d_P_divide_65 : decode b_P_divide 65 = .ok (.ifCond .eq 38, 3) := by decide +kernel
theorem d_P_divide_68 : decode b_P_divide 68 = .ok (.aload_n 0, 1) := by decide +kernel
theorem d_P_divide_69 : decode b_P_divide 69 = .ok (.getfield 33, 3) := by decide +kernel
theorem d_P_divide_72 : decode b_P_divide 72 = .ok (.getfield 121, 3) := by decide +kernel
theorem d_P_divide_75 : decode b_P_divide 75 = .ok (.ifCond .le 28, 3) := by decide +kernel
theorem d_P_divide_78 : decode b_P_divide 78 = .ok (.aload_n 0, 1) := by decide +kernel
theorem d_P_divide_79 : decode b_P_divide 79 = .ok (.getfield 40, 3) := by decide +kernel
theorem d_P_divide_82 : decode b_P_divide 82 = .ok (.invokevirtual 125, 3) := by decide +kernel
theorem d_P_divide_85 : decode b_P_divide 85 = .ok (.aload_n 0, 1) := by decide +kernel
theorem d_P_divide_86 : decode b_P_divide 86 = .ok (.getfield 43, 3) := by decide +kernel
theorem d_P_divide_89 : decode b_P_divide 89 = .ok (.aload_n 0, 1) := by decide +kernel
theorem d_P_divide_90 : decode b_P_divide 90 = .ok (.getfield 37, 3) := by decide +kernel
theorem d_P_divide_93 : decode b_P_divide 93 = .ok (.aload_n 0, 1) := by decide +kernel
theorem d_P_divide_94 : decode b_P_divide 94 = .ok (.getfield 33, 3) := by decide +kernel
theorem d_P_divide_97 : decode b_P_divide 97 = .ok (.invokevirtual 128, 3) := by decide +kernel
theorem d_P_divide_100 : decode b_P_divide 100 = .ok (.goto 14, 3) := by decide +kernel
theorem d_P_divide_103 : decode b_P_divide 103 = .ok (.aload_n 0, 1) := by decide +kernel
theorem d_P_divide_104 : decode b_P_divide 104 = .ok (.getfield 43, 3) := by decide +kernel
theorem d_P_divide_107 : decode b_P_divide 107 = .ok (.aload_n 0, 1) := by decide +kernel
theorem d_P_divide_108 : decode b_P_divide 108 = .ok (.getfield 33, 3) := by decide +kernel
theorem d_P_divide_111 : decode b_P_divide 111 = .ok (.invokevirtual 131, 3) := by decide +kernel
theorem d_P_divide_114 : decode b_P_divide 114 = .ok (.aload_n 0, 1) := by decide +kernel
theorem d_P_divide_115 : decode b_P_divide 115 = .ok (.getfield 40, 3) := by decide +kernel
theorem d_P_divide_118 : decode b_P_divide 118 = .ok (.iload 5, 2) := by decide +kernel
theorem d_P_divide_120 : decode b_P_divide 120 = .ok (.invokevirtual 135, 3) := by decide +kernel
theorem d_P_divide_123 : decode b_P_divide 123 = .ok (.aload_n 0, 1) := by decide +kernel
theorem d_P_divide_124 : decode b_P_divide 124 = .ok (.iload_n 2, 1) := by decide +kernel
theorem d_P_divide_125 : decode b_P_divide 125 = .ok (.aload_n 0, 1) := by decide +kernel
theorem d_P_divide_126 : decode b_P_divide 126 = .ok (.getfield 43, 3) := by decide +kernel
theorem d_P_divide_129 : decode b_P_divide 129 = .ok (.invokevirtual 54, 3) := by decide +kernel
theorem d_P_divide_132 : decode b_P_divide 132 = .ok (.pop, 1) := by decide +kernel
theorem d_P_divide_133 : decode b_P_divide 133 = .ok (.aload_n 0, 1) := by decide +kernel
theorem d_P_divide_134 : decode b_P_divide 134 = .ok (.iload_n 1, 1) := by decide +kernel
theorem d_P_divide_135 : decode b_P_divide 135 = .ok (.aload_n 0, 1) := by decide +kernel
theorem d_P_divide_136 : decode b_P_divide 136 = .ok (.getfield 40, 3) := by decide +kernel
theorem d_P_divide_139 : decode b_P_divide 139 = .ok (.invokevirtual 54, 3) := by decide +kernel
theorem d_P_divide_142 : decode b_P_divide 142 = .ok (.ireturn, 1) := by decide +kernel
theorem d_P_exact_0 : decode b_P_exact 0 = .ok (.aload_n 0, 1) := by decide +kernel
theorem d_P_exact_1 : decode b_P_exact 1 = .ok (.iload_n 1, 1) := by decide +kernel
theorem d_P_exact_2 : decode b_P_exact 2 = .ok (.invokevirtual 46, 3) := by decide +kernel
theorem d_P_exact_5 : decode b_P_exact 5 = .ok (.aload_n 0, 1) := by decide +kernel
theorem d_P_exact_6 : decode b_P_exact 6 = .ok (.iload_n 2, 1) := by decide +kernel
theorem d_P_exact_7 : decode b_P_exact 7 = .ok (.iload_n 3, 1) := by decide +kernel
theorem d_P_exact_8 : decode b_P_exact 8 = .ok (.invokevirtual 65, 3) := by decide +kernel
theorem d_P_exact_11 : decode b_P_exact 11 = .ok (.aload_n 0, 1) := by decide +kernel
theorem d_P_exact_12 : decode b_P_exact 12 = .ok (.iload_n 2, 1) := by decide +kernel
theorem d_P_exact_13 : decode b_P_exact 13 = .ok (.iload_n 3, 1) := by decide +kernel
theorem d_P_exact_14 : decode b_P_exact 14 = .ok (.invokevirtual 83, 3) := by decide +kernel
theorem d_P_exact_17 : decode b_P_exact 17 = .ok (.aload_n 0, 1) := by decide +kernel
theorem d_P_exact_18 : decode b_P_exact 18 = .ok (.getfield 37, 3) := by decide +kernel
theorem d_P_exact_21 : decode b_P_exact 21 = .ok (.getfield 121, 3) := by decide +kernel
theorem d_P_exact_24 : decode b_P_exact 24 = .ok (.ifCond .ne 13, 3) := by decide +kernel
theorem d_P_exact_27 : decode b_P_exact 27 = .ok (.new 139, 3) := by decide +kernel
theorem d_P_exact_30 : decode b_P_exact 30 = .ok (.dup, 1) := by decide +kernel
theorem d_P_exact_31 : decode b_P_exact 31 = .ok (.ldc 141, 2) := by decide +kernel
theorem d_P_exact_33 : decode b_P_exact 33 = .ok (.invokespecial 143, 3) := by decide +kernel
theorem d_P_exact_36 : decode b_P_exact 36 = .ok (.athrow, 1) := by decide +kernel
theorem d_P_exact_37 : decode b_P_exact 37 = .ok (.aload_n 0, 1) := by decide +kernel
theorem d_P_exact_38 : decode b_P_exact 38 = .ok (.getfield 33, 3) := by decide +kernel
theorem d_P_exact_41 : decode b_P_exact 41 = .ok (.getfield 111, 3) := by decide +kernel
theorem d_P_exact_44 : decode b_P_exact 44 = .ok (.aload_n 0, 1) := by decide +kernel
theorem d_P_exact_45 : decode b_P_exact 45 = .ok (.getfield 37, 3) := by decide +kernel
theorem d_P_exact_48 : decode b_P_exact 48 = .ok (.getfield 111, 3) := by decide +kernel
theorem d_P_exact_51 : decode b_P_exact 51 = .ok (.if_icmp .eq 7, 3) := by decide +kernel
theorem d_P_exact_54 : decode b_P_exact 54 = .ok (.iconst 1, 1) := by decide +kernel
theorem d_P_exact_55 : decode b_P_exact 55 = .ok (.goto 4, 3) := by decide +kernel
theorem d_P_exact_58 : decode b_P_exact 58 = .ok (.iconst 0, 1) := by decide +kernel
theorem d_P_exact_59 : decode b_P_exact 59 = .ok (.istore 4, 2) := by decide +kernel
theorem d_P_exact_61 : decode b_P_exact 61 = .ok (.aload_n 0, 1) := by decide +kernel
theorem d_P_exact_62 : decode b_P_exact 62 = .ok (.getfield 33, 3) := by decide +kernel
theorem d_P_exact_65 : decode b_P_exact 65 = .ok (.aload_n 0, 1) := by decide +kernel
theorem d_P_exact_66 : decode b_P_exact 66 = .ok (.getfield 37, 3) := by decide +kernel
theorem d_P_exact_69 : decode b_P_exact 69 = .ok (.aload_n 0, 1) := by decide +kernel
theorem d_P_exact_70 : decode b_P_exact 70 = .ok (.getfield 40, 3) := by decide +kernel
theorem d_P_exact_73 : decode b_P_exact 73 = .ok (.invokestatic 115, 3) := by decide +kernel
theorem d_P_exact_76 : decode b_P_exact 76 = .ok (.aload_n 0, 1) := by decide +kernel
theorem d_P_exact_77 : decode b_P_exact 77 = .ok (.getfield 33, 3) := by decide +kernel
theorem d_P_exact_80 : decode b_P_exact 80 = .ok (.getfield 121, 3) := by decide +kernel
theorem d_P_exact_83 : decode b_P_exact 83 = .ok (.ifCond .le 13, 3) := by decide +kernel
theorem d_P_exact_86 : decode b_P_exact 86 = .ok (.new 139, 3) := by decide +kernel
theorem d_P_exact_89 : decode b_P_exact 89 = .ok (.dup, 1) := by decide +kernel
theorem d_P_exact_90 : decode b_P_exact 90 = .ok (.ldc 144, 2) := by decide +kernel
theorem d_P_exact_92 : decode b_P_exact 92 = .ok (.invokespecial 143, 3) := by decide +kernel
theorem d_P_exact_95 : decode b_P_exact 95 = .ok (.athrow, 1) := by decide +kernel
theorem d_P_exact_96 : decode b_P_exact 96 = .ok (.aload_n 0, 1) := by decide +kernel
theorem d_P_exact_97 : decode b_P_exact 97 = .ok (.getfield 40, 3) := by decide +kernel
theorem d_P_exact_100 : decode b_P_exact 100 = .ok (.iload 4, 2) := by decide +kernel
theorem d_P_exact_102 : decode b_P_exact 102 = .ok (.invokevirtual 135, 3) := by decide +kernel
theorem d_P_exact_105 : decode b_P_exact 105 = .ok (.aload_n 0, 1) := by decide +kernel
theorem d_P_exact_106 : decode b_P_exact 106 = .ok (.iload_n 1, 1) := by decide +kernel
theorem d_P_exact_107 : decode b_P_exact 107 = .ok (.aload_n 0, 1) := by decide +kernel
theorem d_P_exact_108 : decode b_P_exact 108 = .ok (.getfield 40, 3) := by decide +kernel
theorem d_P_exact_111 : decode b_P_exact 111 = .ok (.invokevirtual 54, 3) := by decide +kernel
theorem d_P_exact_114 : decode b_P_exact 114 = .ok (.ireturn, 1) := by decide +kernel
theorem d_P_nearest_0 : decode b_P_nearest 0 = .ok (.aload_n 0, 1) := by decide +kernel
theorem d_P_nearest_1 : decode b_P_nearest 1 = .ok (.iload_n 1, 1) := by decide +kernel
theorem d_P_nearest_2 : decode b_P_nearest 2 = .ok (.invokevirtual 46, 3) := by decide +kernel
theorem d_P_nearest_5 : decode b_P_nearest 5 = .ok (.aload_n 0, 1) := by decide +kernel
theorem d_P_nearest_6 : decode b_P_nearest 6 = .ok (.iload_n 2, 1) := by decide +kernel
theorem d_P_nearest_7 : decode b_P_nearest 7 = .ok (.iload_n 3, 1) := by decide +kernel
theorem d_P_nearest_8 : decode b_P_nearest 8 = .ok (.invokevirtual 65, 3) := by decide +kernel
theorem d_P_nearest_11 : decode b_P_nearest 11 = .ok (.aload_n 0, 1) := by decide +kernel
theorem d_P_nearest_12 : decode b_P_nearest 12 = .ok (.iload_n 2, 1) := by decide +kernel
theorem d_P_nearest_13 : decode b_P_nearest 13 = .ok (.iload_n 3, 1) := by decide +kernel
theorem d_P_nearest_14 : decode b_P_nearest 14 = .ok (.invokevirtual 83, 3) := by decide +kernel
theorem d_P_nearest_17 : decode b_P_nearest 17 = .ok (.aload_n 0, 1) := by decide +kernel
theorem d_P_nearest_18 : decode b_P_nearest 18 = .ok (.invokevirtual 108, 3) := by decide +kernel
theorem d_P_nearest_21 : decode b_P_nearest 21 = .ok (.aload_n 0, 1) := by decide +kernel
theorem d_P_nearest_22 : decode b_P_nearest 22 = .ok (.getfield 33, 3) := by decide +kernel
theorem d_P_nearest_25 : decode b_P_nearest 25 = .ok (.getfield 111, 3) := by decide +kernel
theorem d_P_nearest_28 : decode b_P_nearest 28 = .ok (.istore 4, 2) := by decide +kernel
theorem d_P_nearest_30 : decode b_P_nearest 30 = .ok (.aload_n 0, 1) := by decide +kernel
theorem d_P_nearest_31 : decode b_P_nearest 31 = .ok (.getfield 33, 3) := by decide +kernel
theorem d_P_nearest_34 : decode b_P_nearest 34 = .ok (.aload_n 0, 1) := by decide +kernel
theorem d_P_nearest_35 : decode b_P_nearest 35 = .ok (.getfield 37, 3) := by decide +kernel
theorem d_P_nearest_38 : decode b_P_nearest 38 = .ok (.aload_n 0, 1) := by decide +kernel
theorem d_P_nearest_39 : decode b_P_nearest 39 = .ok (.getfield 40, 3) := by decide +kernel
theorem d_P_nearest_42 : decode b_P_nearest 42 = .ok (.invokestatic 115, 3) := by decide +kernel
theorem d_P_nearest_45 : decode b_P_nearest 45 = .ok (.aload_n 0, 1) := by decide +kernel
theorem d_P_nearest_46 : decode b_P_nearest 46 = .ok (.getfield 43, 3) := by decide +kernel
theorem d_P_nearest_49 : decode b_P_nearest 49 = .ok (.aload_n 0, 1) := by decide +kernel
theorem d_P_nearest_50 : decode b_P_nearest 50 = .ok (.getfield 33, 3) := by decide +kernel
theorem d_P_nearest_53 : decode b_P_nearest 53 = .ok (.aload_n 0, 1) := by decide +kernel
theorem d_P_nearest_54 : decode b_P_nearest 54 = .ok (.getfield 33, 3) := by decide +kernel
theorem d_P_nearest_57 : decode b_P_nearest 57 = .ok (.invokevirtual 146, 3) := by decide +kernel
theorem d_P_nearest_60 : decode b_P_nearest 60 = .ok (.aload_n 0, 1) := by decide +kernel
theorem d_P_nearest_61 : decode b_P_nearest 61 = .ok (.getfield 43, 3) := by decide +kernel
theorem d_P_nearest_64 : decode b_P_nearest 64 = .ok (.aload_n 0, 1) := by decide +kernel
theorem d_P_nearest_65 : decode b_P_nearest 65 = .ok (.getfield 37, 3) := by decide +kernel
theorem d_P_nearest_68 : decode b_P_nearest 68 = .ok (.invokevirtual 149, 3) := by decide +kernel
theorem d_P_nearest_71 : decode b_P_nearest 71 = .ok (.istore 5, 2) := by decide +kernel
theorem d_P_nearest_73 : decode b_P_nearest 73 = .ok (.iload 5, 2) := by decide +kernel
theorem d_P_nearest_75 : decode b_P_nearest 75 = .ok (.ifCond .gt 18, 3) := by decide +kernel
theorem d_P_nearest_78 : decode b_P_nearest 78 = .ok (.iload 5, 2) := by decide +kernel
theorem d_P_nearest_80 : decode b_P_nearest 80 = .ok (.ifCond .ne 20, 3) := by decide +kernel
theorem d_P_nearest_83 : decode b_P_nearest 83 = .ok (.aload_n 0, 1) := by decide +kernel
theorem d_P_nearest_84 : decode b_P_nearest 84 = .ok (.getfield 40, 3) := by decide +kernel
theorem d_P_nearest_87 : decode b_P_nearest 87 = .ok (.invokevirtual 153, 3) := by decide +kernel
theorem d_P_nearest_90 : decode b_P_nearest 90 = .ok (.ifCond .eq 10, 3) := by decide +kernel
theorem d_P_nearest_93 : decode b_P_nearest 93 = .ok (.aload_n 0, 1) := by decide +kernel
theorem d_P_nearest_94 : decode b_P_nearest 94 = .ok (.getfield 40, 3) := by decide +kernel
theorem d_P_nearest_97 : decode b_P_nearest 97 = .ok (.invokevirtual 125, 3) := by decide +kernel
theorem d_P_nearest_100 : decode b_P_nearest 100 = .ok (.aload_n 0, 1) := by decide +kernel
theorem d_P_nearest_101 : decode b_P_nearest 101 = .ok (.getfield 40, 3) := by decide +kernel
theorem d_P_nearest_104 : decode b_P_nearest 104 = .ok (.iload 4, 2) := by decide +kernel
theorem d_P_nearest_106 : decode b_P_nearest 106 = .ok (.invokevirtual 135, 3) := by decide +kernel
theorem d_P_nearest_109 : decode b_P_nearest 109 = .ok (.aload_n 0, 1) := by decide +kernel
theorem d_P_nearest_110 : decode b_P_nearest 110 = .ok (.iload_n 1, 1) := by decide +kernel
theorem d_P_nearest_111 : decode b_P_nearest 111 = .ok (.aload_n 0, 1) := by decide +kernel
theorem d_P_nearest_112 : decode b_P_nearest 112 = .ok (.getfield 40, 3) := by decide +kernel
theorem d_P_nearest_115 : decode b_P_nearest 115 = .ok (.invokevirtual 54, 3) := by decide +kernel
theorem d_P_nearest_118 : decode b_P_nearest 118 = .ok (.ireturn, 1) := by decide +kernel
theorem d_P_gcd_0 : decode b_P_gcd 0 = .ok (.aload_n 0, 1) := by decide +kernel
theorem d_P_gcd_1 : decode b_P_gcd 1 = .ok (.iload_n 1, 1) := by decide +kernel
theorem d_P_gcd_2 : decode b_P_gcd 2 = .ok (.invokevirtual 46, 3) := by decide +kernel
theorem d_P_gcd_5 : decode b_P_gcd 5 = .ok (.aload_n 0, 1) := by decide +kernel
theorem d_P_gcd_6 : decode b_P_gcd 6 = .ok (.iload_n 2, 1) := by decide +kernel
theorem d_P_gcd_7 : decode b_P_gcd 7 = .ok (.iload_n 3, 1) := by decide +kernel
theorem d_P_gcd_8 : decode b_P_gcd 8 = .ok (.invokevirtual 65, 3) := by decide +kernel
theorem d_P_gcd_11 : decode b_P_gcd 11 = .ok (.aload_n 0, 1) := by decide +kernel
theorem d_P_gcd_12 : decode b_P_gcd 12 = .ok (.iload_n 2, 1) := by decide +kernel
theorem d_P_gcd_13 : decode b_P_gcd 13 = .ok (.iload_n 3, 1) := by decide +kernel
theorem d_P_gcd_14 : decode b_P_gcd 14 = .ok (.invokevirtual 83, 3) := by decide +kernel
theorem d_P_gcd_17 : decode b_P_gcd 17 = .ok (.aload_n 0, 1) := by decide +kernel
theorem d_P_gcd_18 : decode b_P_gcd 18 = .ok (.iload_n 1, 1) := by decide +kernel
theorem d_P_gcd_19 : decode b_P_gcd 19 = .ok (.aload_n 0, 1) := by decide +kernel
theorem d_P_gcd_20 : decode b_P_gcd 20 = .ok (.getfield 19, 3) := by decide +kernel
theorem d_P_gcd_23 : decode b_P_gcd 23 = .ok (.aload_n 0, 1) := by decide +kernel
theorem d_P_gcd_24 : decode b_P_gcd 24 = .ok (.getfield 33, 3) := by decide +kernel
theorem d_P_gcd_27 : decode b_P_gcd 27 = .ok (.aload_n 0, 1) := by decide +kernel
theorem d_P_gcd_28 : decode b_P_gcd 28 = .ok (.getfield 37, 3) := by decide +kernel
theorem d_P_gcd_31 : decode b_P_gcd 31 = .ok (.aload_n 0, 1) := by decide +kernel
theorem d_P_gcd_32 : decode b_P_gcd 32 = .ok (.getfield 40, 3) := by decide +kernel
theorem d_P_gcd_35 : decode b_P_gcd 35 = .ok (.invokevirtual 157, 3) := by decide +kernel
theorem d_P_gcd_38 : decode b_P_gcd 38 = .ok (.invokevirtual 54, 3) := by decide +kernel
theorem d_P_gcd_41 : decode b_P_gcd 41 = .ok (.ireturn, 1) := by decide +kernel
theorem d_P_compare_0 : decode b_P_compare 0 = .ok (.aload_n 0, 1) := by decide +kernel
theorem d_P_compare_1 : decode b_P_compare 1 = .ok (.iload_n 1, 1) := by decide +kernel
theorem d_P_compare_2 : decode b_P_compare 2 = .ok (.iload_n 2, 1) := by decide +kernel
theorem d_P_compare_3 : decode b_P_compare 3 = .ok (.invokevirtual 65, 3) := by decide +kernel
theorem d_P_compare_6 : decode b_P_compare 6 = .ok (.aload_n 0, 1) := by decide +kernel
theorem d_P_compare_7 : decode b_P_compare 7 = .ok (.iload_n 1, 1) := by decide +kernel
theorem d_P_compare_8 : decode b_P_compare 8 = .ok (.iload_n 2, 1) := by decide +kernel
theorem d_P_compare_9 : decode b_P_compare 9 = .ok (.invokevirtual 83, 3) := by decide +kernel
theorem d_P_compare_12 : decode b_P_compare 12 = .ok (.aload_n 0, 1) := by decide +kernel
theorem d_P_compare_13 : decode b_P_compare 13 = .ok (.getfield 33, 3) := by decide +kernel
theorem d_P_compare_16 : decode b_P_compare 16 = .ok (.getfield 111, 3) := by decide +kernel
theorem d_P_compare_19 : decode b_P_compare 19 = .ok (.aload_n 0, 1) := by decide +kernel
theorem d_P_compare_20 : decode b_P_compare 20 = .ok (.getfield 37, 3) := by decide +kernel
theorem d_P_compare_23 : decode b_P_compare 23 = .ok (.getfield 111, 3) := by decide +kernel
theorem d_P_compare_26 : decode b_P_compare 26 = .ok (.if_icmp .eq 19, 3) := by decide +kernel
theorem d_P_compare_29 : decode b_P_compare 29 = .ok (.aload_n 0, 1) := by decide +kernel
theorem d_P_compare_30 : decode b_P_compare 30 = .ok (.getfield 33, 3) := by decide +kernel
theorem d_P_compare_33 : decode b_P_compare 33 = .ok (.getfield 111, 3) := by decide +kernel
theorem d_P_compare_36 : decode b_P_compare 36 = .ok (.ifCond .eq 7, 3) := by decide +kernel
theorem d_P_compare_39 : decode b_P_compare 39 = .ok (.iconst (-1), 1) := by decide +kernel
theorem d_P_compare_40 : decode b_P_compare 40 = .ok (.goto 4, 3) := by decide +kernel
theorem d_P_compare_43 : decode b_P_compare 43 = .ok (.iconst 1, 1) := by decide +kernel
theorem d_P_compare_44 : decode b_P_compare 44 = .ok (.ireturn, 1) := by decide +kernel
theorem d_P_compare_45 : decode b_P_compare 45 = .ok (.aload_n 0, 1) := by decide +kernel
theorem d_P_compare_46 : decode b_P_compare 46 = .ok (.getfield 33, 3) := by decide +kernel
theorem d_P_compare_49 : decode b_P_compare 49 = .ok (.aload_n 0, 1) := by decide +kernel
theorem d_P_compare_50 : decode b_P_compare 50 = .ok (.getfield 37, 3) := by decide +kernel
theorem d_P_compare_53 : decode b_P_compare 53 = .ok (.invokevirtual 149, 3) := by decide +kernel
theorem d_P_compare_56 : decode b_P_compare 56 = .ok (.istore_n 3, 1) := by decide +kernel
theorem d_P_compare_57 : decode b_P_compare 57 = .ok (.aload_n 0, 1) := by decide +kernel
theorem d_P_compare_58 : decode b_P_compare 58 = .ok (.getfield 33, 3) := by decide +kernel
theorem d_P_compare_61 : decode b_P_compare 61 = .ok (.getfield 111, 3) := by decide +kernel
theorem d_P_compare_64 : decode b_P_compare 64 = .ok (.ifCond .eq 8, 3) := by decide +kernel
theorem d_P_compare_67 : decode b_P_compare 67 = .ok (.iload_n 3, 1) := by decide +kernel
theorem d_P_compare_68 : decode b_P_compare 68 = .ok (.ineg, 1) := by decide +kernel
theorem d_P_compare_69 : decode b_P_compare 69 = .ok (.goto 4, 3) := by decide +kernel
theorem d_P_compare_72 : decode b_P_compare 72 = .ok (.iload_n 3, 1) := by decide +kernel
theorem d_P_compare_73 : decode b_P_compare 73 = .ok (.ireturn, 1) := by decide +kernel
theorem d_P_sign_0 : decode b_P_sign 0 = .ok (.aload_n 0, 1) := by decide +kernel
theorem d_P_sign_1 : decode b_P_sign 1 = .ok (.iload_n 1, 1) := by decide +kernel
theorem d_P_sign_2 : decode b_P_sign 2 = .ok (.invokevirtual 46, 3) := by decide +kernel
theorem d_P_sign_5 : decode b_P_sign 5 = .ok (.aload_n 0, 1) := by decide +kernel
theorem d_P_sign_6 : decode b_P_sign 6 = .ok (.getfield 12, 3) := by decide +kernel
theorem d_P_sign_9 : decode b_P_sign 9 = .ok (.iload_n 1, 1) := by decide +kernel
theorem d_P_sign_10 : decode b_P_sign 10 = .ok (.aload_n 0, 1) := by decide +kernel
theorem d_P_sign_11 : decode b_P_sign 11 = .ok (.getfield 33, 3) := by decide +kernel
theorem d_P_sign_14 : decode b_P_sign 14 = .ok (.invokevirtual 58, 3) := by decide +kernel
theorem d_P_sign_17 : decode b_P_sign 17 = .ok (.aload_n 0, 1) := by decide +kernel
theorem d_P_sign_18 : decode b_P_sign 18 = .ok (.getfield 33, 3) := by decide +kernel
theorem d_P_sign_21 : decode b_P_sign 21 = .ok (.invokevirtual 161, 3) := by decide +kernel
theorem d_P_sign_24 : decode b_P_sign 24 = .ok (.ireturn, 1) := by decide +kernel
theorem d_P_length_0 : decode b_P_length 0 = .ok (.aload_n 0, 1) := by decide +kernel
theorem d_P_length_1 : decode b_P_length 1 = .ok (.iload_n 1, 1) := by decide +kernel
theorem d_P_length_2 : decode b_P_length 2 = .ok (.invokevirtual 46, 3) := by decide +kernel
theorem d_P_length_5 : decode b_P_length 5 = .ok (.aload_n 0, 1) := by decide +kernel
theorem d_P_length_6 : decode b_P_length 6 = .ok (.getfield 12, 3) := by decide +kernel
theorem d_P_length_9 : decode b_P_length 9 = .ok (.iload_n 1, 1) := by decide +kernel
theorem d_P_length_10 : decode b_P_length 10 = .ok (.aload_n 0, 1) := by decide +kernel
theorem d_P_length_11 : decode b_P_length 11 = .ok (.getfield 33, 3) := by decide +kernel
theorem d_P_length_14 : decode b_P_length 14 = .ok (.invokevirtual 58, 3) := by decide +kernel
theorem d_P_length_17 : decode b_P_length 17 = .ok (.aload_n 0, 1) := by decide +kernel
theorem d_P_length_18 : decode b_P_length 18 = .ok (.getfield 33, 3) := by decide +kernel
theorem d_P_length_21 : decode b_P_length 21 = .ok (.invokevirtual 164, 3) := by decide +kernel
theorem d_P_length_24 : decode b_P_length 24 = .ok (.ireturn, 1) := by decide +kernel
theorem d_P_limb_0 : decode b_P_limb 0 = .ok (.aload_n 0, 1) := by decide +kernel
theorem d_P_limb_1 : decode b_P_limb 1 = .ok (.iload_n 1, 1) := by decide +kernel
theorem d_P_limb_2 : decode b_P_limb 2 = .ok (.invokevirtual 46, 3) := by decide +kernel
theorem d_P_limb_5 : decode b_P_limb 5 = .ok (.iload_n 2, 1) := by decide +kernel
theorem d_P_limb_6 : decode b_P_limb 6 = .ok (.ifCond .ge 13, 3) := by decide +kernel
theorem d_P_limb_9 : decode b_P_limb 9 = .ok (.new 167, 3) := by decide +kernel
theorem d_P_limb_12 : decode b_P_limb 12 = .ok (.dup, 1) := by decide +kernel
theorem d_P_limb_13 : decode b_P_limb 13 = .ok (.ldc 169, 2) := by decide +kernel
theorem d_P_limb_15 : decode b_P_limb 15 = .ok (.invokespecial 171, 3) := by decide +kernel
theorem d_P_limb_18 : decode b_P_limb 18 = .ok (.athrow, 1) := by decide +kernel
theorem d_P_limb_19 : decode b_P_limb 19 = .ok (.aload_n 0, 1) := by decide +kernel
theorem d_P_limb_20 : decode b_P_limb 20 = .ok (.getfield 12, 3) := by decide +kernel
theorem d_P_limb_23 : decode b_P_limb 23 = .ok (.iload_n 1, 1) := by decide +kernel
theorem d_P_limb_24 : decode b_P_limb 24 = .ok (.aload_n 0, 1) := by decide +kernel
theorem d_P_limb_25 : decode b_P_limb 25 = .ok (.getfield 33, 3) := by decide +kernel
theorem d_P_limb_28 : decode b_P_limb 28 = .ok (.invokevirtual 58, 3) := by decide +kernel
theorem d_P_limb_31 : decode b_P_limb 31 = .ok (.aload_n 0, 1) := by decide +kernel
theorem d_P_limb_32 : decode b_P_limb 32 = .ok (.getfield 33, 3) := by decide +kernel
theorem d_P_limb_35 : decode b_P_limb 35 = .ok (.iload_n 2, 1) := by decide +kernel
theorem d_P_limb_36 : decode b_P_limb 36 = .ok (.invokevirtual 172, 3) := by decide +kernel
theorem d_P_limb_39 : decode b_P_limb 39 = .ok (.l2i, 1) := by decide +kernel
theorem d_P_limb_40 : decode b_P_limb 40 = .ok (.ireturn, 1) := by decide +kernel
theorem d_P_rest_0 : decode b_P_rest 0 = .ok (.aload_n 0, 1) := by decide +kernel
theorem d_P_rest_1 : decode b_P_rest 1 = .ok (.iload_n 1, 1) := by decide +kernel
theorem d_P_rest_2 : decode b_P_rest 2 = .ok (.invokevirtual 46, 3) := by decide +kernel
theorem d_P_rest_5 : decode b_P_rest 5 = .ok (.iload_n 2, 1) := by decide +kernel
theorem d_P_rest_6 : decode b_P_rest 6 = .ok (.iconst 1, 1) := by decide +kernel
theorem d_P_rest_7 : decode b_P_rest 7 = .ok (.if_icmp .ge 13, 3) := by decide +kernel
theorem d_P_rest_10 : decode b_P_rest 10 = .ok (.new 101, 3) := by decide +kernel
theorem d_P_rest_13 : decode b_P_rest 13 = .ok (.dup, 1) := by decide +kernel
theorem d_P_rest_14 : decode b_P_rest 14 = .ok (.ldc 176, 2) := by decide +kernel
theorem d_P_rest_16 : decode b_P_rest 16 = .ok (.invokespecial 105, 3) := by decide +kernel
theorem d_P_rest_19 : decode b_P_rest 19 = .ok (.athrow, 1) := by decide +kernel
theorem d_P_rest_20 : decode b_P_rest 20 = .ok (.aload_n 0, 1) := by decide +kernel
theorem d_P_rest_21 : decode b_P_rest 21 = .ok (.getfield 12, 3) := by decide +kernel
theorem d_P_rest_24 : decode b_P_rest 24 = .ok (.iload_n 1, 1) := by decide +kernel
theorem d_P_rest_25 : decode b_P_rest 25 = .ok (.aload_n 0, 1) := by decide +kernel
theorem d_P_rest_26 : decode b_P_rest 26 = .ok (.getfield 33, 3) := by decide +kernel
theorem d_P_rest_29 : decode b_P_rest 29 = .ok (.invokevirtual 58, 3) := by decide +kernel
theorem d_P_rest_32 : decode b_P_rest 32 = .ok (.aload_n 0, 1) := by decide +kernel
theorem d_P_rest_33 : decode b_P_rest 33 = .ok (.getfield 33, 3) := by decide +kernel
theorem d_P_rest_36 : decode b_P_rest 36 = .ok (.getfield 111, 3) := by decide +kernel
theorem d_P_rest_39 : decode b_P_rest 39 = .ok (.istore_n 3, 1) := by decide +kernel
theorem d_P_rest_40 : decode b_P_rest 40 = .ok (.aload_n 0, 1) := by decide +kernel
theorem d_P_rest_41 : decode b_P_rest 41 = .ok (.getfield 33, 3) := by decide +kernel
theorem d_P_rest_44 : decode b_P_rest 44 = .ok (.iload_n 2, 1) := by decide +kernel
theorem d_P_rest_45 : decode b_P_rest 45 = .ok (.i2l, 1) := by decide +kernel
theorem d_P_rest_46 : decode b_P_rest 46 = .ok (.invokevirtual 178, 3) := by decide +kernel
theorem d_P_rest_49 : decode b_P_rest 49 = .ok (.l2i, 1) := by decide +kernel
theorem d_P_rest_50 : decode b_P_rest 50 = .ok (.istore 4, 2) := by decide +kernel
theorem d_P_rest_52 : decode b_P_rest 52 = .ok (.iload_n 3, 1) := by decide +kernel
theorem d_P_rest_53 : decode b_P_rest 53 = .ok (.ifCond .eq 15, 3) := by decide +kernel
theorem d_P_rest_56 : decode b_P_rest 56 = .ok (.iload 4, 2) := by decide +kernel
theorem d_P_rest_58 : decode b_P_rest 58 = .ok (.ifCond .le 10, 3) := by decide +kernel
theorem d_P_rest_61 : decode b_P_rest 61 = .ok (.iload_n 2, 1) := by decide +kernel
theorem d_P_rest_62 : decode b_P_rest 62 = .ok (.iload 4, 2) := by decide +kernel
theorem d_P_rest_64 : decode b_P_rest 64 = .ok (.isub, 1) := by decide +kernel
theorem d_P_rest_65 : decode b_P_rest 65 = .ok (.goto 5, 3) := by decide +kernel
theorem d_P_rest_68 : decode b_P_rest 68 = .ok (.iload 4, 2) := by decide +kernel
theorem d_P_rest_70 : decode b_P_rest 70 = .ok (.ireturn, 1) := by decide +kernel
theorem d_P_print_0 : decode b_P_print 0 = .ok (.aload_n 0, 1) := by decide +kernel
theorem d_P_print_1 : decode b_P_print 1 = .ok (.iload_n 1, 1) := by decide +kernel
theorem d_P_print_2 : decode b_P_print 2 = .ok (.invokevirtual 46, 3) := by decide +kernel
theorem d_P_print_5 : decode b_P_print 5 = .ok (.aload_n 0, 1) := by decide +kernel
theorem d_P_print_6 : decode b_P_print 6 = .ok (.getfield 12, 3) := by decide +kernel
theorem d_P_print_9 : decode b_P_print 9 = .ok (.iload_n 1, 1) := by decide +kernel
theorem d_P_print_10 : decode b_P_print 10 = .ok (.aload_n 0, 1) := by decide +kernel
theorem d_P_print_11 : decode b_P_print 11 = .ok (.getfield 33, 3) := by decide +kernel
theorem d_P_print_14 : decode b_P_print 14 = .ok (.invokevirtual 58, 3) := by decide +kernel
theorem d_P_print_17 : decode b_P_print 17 = .ok (.aload_n 0, 1) := by decide +kernel
theorem d_P_print_18 : decode b_P_print 18 = .ok (.getfield 26, 3) := by decide +kernel
theorem d_P_print_21 : decode b_P_print 21 = .ok (.aload_n 0, 1) := by decide +kernel
theorem d_P_print_22 : decode b_P_print 22 = .ok (.getfield 33, 3) := by decide +kernel
theorem d_P_print_25 : decode b_P_print 25 = .ok (.invokevirtual 182, 3) := by decide +kernel
theorem d_P_print_28 : decode b_P_print 28 = .ok (.ireturn, 1) := by decide +kernel
theorem d_P_character_0 : decode b_P_character 0 = .ok (.aload_n 0, 1) := by decide +kernel
theorem d_P_character_1 : decode b_P_character 1 = .ok (.getfield 26, 3) := by decide +kernel
theorem d_P_character_4 : decode b_P_character 4 = .ok (.iload_n 1, 1) := by decide +kernel
theorem d_P_character_5 : decode b_P_character 5 = .ok (.invokevirtual 185, 3) := by decide +kernel
theorem d_P_character_8 : decode b_P_character 8 = .ok (.ireturn, 1) := by decide +kernel
theorem d_P_needRegister_0 : decode b_P_needRegister 0 = .ok (.iload_n 1, 1) := by decide +kernel
theorem d_P_needRegister_1 : decode b_P_needRegister 1 = .ok (.ifCond .lt 9, 3) := by decide +kernel
theorem d_P_needRegister_4 : decode b_P_needRegister 4 = .ok (.iload_n 1, 1) := by decide +kernel
theorem d_P_needRegister_5 : decode b_P_needRegister 5 = .ok (.bipush 24, 2) := by decide +kernel
theorem d_P_needRegister_7 : decode b_P_needRegister 7 = .ok (.if_icmp .lt 13, 3) := by decide +kernel
theorem d_P_needRegister_10 : decode b_P_needRegister 10 = .ok (.new 167, 3) := by decide +kernel
theorem d_P_needRegister_13 : decode b_P_needRegister 13 = .ok (.dup, 1) := by decide +kernel
theorem d_P_needRegister_14 : decode b_P_needRegister 14 = .ok (.ldc 188, 2) := by decide +kernel
theorem d_P_needRegister_16 : decode b_P_needRegister 16 = .ok (.invokespecial 171, 3) := by decide +kernel
theorem d_P_needRegister_19 : decode b_P_needRegister 19 = .ok (.athrow, 1) := by decide +kernel
theorem d_P_needRegister_20 : decode b_P_needRegister 20 = .ok (.return_, 1) := by decide +kernel
theorem d_P_needRegisters_0 : decode b_P_needRegisters 0 = .ok (.aload_n 0, 1) := by decide +kernel
theorem d_P_needRegisters_1 : decode b_P_needRegisters 1 = .ok (.iload_n 1, 1) := by decide +kernel
theorem d_P_needRegisters_2 : decode b_P_needRegisters 2 = .ok (.invokevirtual 46, 3) := by decide +kernel
theorem d_P_needRegisters_5 : decode b_P_needRegisters 5 = .ok (.aload_n 0, 1) := by decide +kernel
theorem d_P_needRegisters_6 : decode b_P_needRegisters 6 = .ok (.iload_n 2, 1) := by decide +kernel
theorem d_P_needRegisters_7 : decode b_P_needRegisters 7 = .ok (.invokevirtual 46, 3) := by decide +kernel
theorem d_P_needRegisters_10 : decode b_P_needRegisters 10 = .ok (.return_, 1) := by decide +kernel
theorem d_P_needLength_0 : decode b_P_needLength 0 = .ok (.iload_n 1, 1) := by decide +kernel
theorem d_P_needLength_1 : decode b_P_needLength 1 = .ok (.sipush 20000, 3) := by decide +kernel
theorem d_P_needLength_4 : decode b_P_needLength 4 = .ok (.if_icmp .le 13, 3) := by decide +kernel
theorem d_P_needLength_7 : decode b_P_needLength 7 = .ok (.new 190, 3) := by decide +kernel
theorem d_P_needLength_10 : decode b_P_needLength 10 = .ok (.dup, 1) := by decide +kernel
theorem d_P_needLength_11 : decode b_P_needLength 11 = .ok (.ldc 192, 2) := by decide +kernel
theorem d_P_needLength_13 : decode b_P_needLength 13 = .ok (.invokespecial 194, 3) := by decide +kernel
theorem d_P_needLength_16 : decode b_P_needLength 16 = .ok (.athrow, 1) := by decide +kernel
theorem d_P_needLength_17 : decode b_P_needLength 17 = .ok (.return_, 1) := by decide +kernel
theorem d_P_needDivisorAboveZero_0 : decode b_P_needDivisorAboveZero 0 = .ok (.aload_n 0, 1) := by decide +kernel
theorem d_P_needDivisorAboveZero_1 : decode b_P_needDivisorAboveZero 1 = .ok (.getfield 37, 3) := by decide +kernel
theorem d_P_needDivisorAboveZero_4 : decode b_P_needDivisorAboveZero 4 = .ok (.invokevirtual 161, 3) := by decide +kernel
theorem d_P_needDivisorAboveZero_7 : decode b_P_needDivisorAboveZero 7 = .ok (.ifCond .gt 13, 3) := by decide +kernel
theorem d_P_needDivisorAboveZero_10 : decode b_P_needDivisorAboveZero 10 = .ok (.new 139, 3) := by decide +kernel
theorem d_P_needDivisorAboveZero_13 : decode b_P_needDivisorAboveZero 13 = .ok (.dup, 1) := by decide +kernel
theorem d_P_needDivisorAboveZero_14 : decode b_P_needDivisorAboveZero 14 = .ok (.ldc 195, 2) := by decide +kernel
theorem d_P_needDivisorAboveZero_16 : decode b_P_needDivisorAboveZero 16 = .ok (.invokespecial 143, 3) := by decide +kernel
theorem d_P_needDivisorAboveZero_19 : decode b_P_needDivisorAboveZero 19 = .ok (.athrow, 1) := by decide +kernel
theorem d_P_needDivisorAboveZero_20 : decode b_P_needDivisorAboveZero 20 = .ok (.return_, 1) := by decide +kernel
theorem d_P_readBoth_0 : decode b_P_readBoth 0 = .ok (.aload_n 0, 1) := by decide +kernel
theorem d_P_readBoth_1 : decode b_P_readBoth 1 = .ok (.getfield 12, 3) := by decide +kernel
theorem d_P_readBoth_4 : decode b_P_readBoth 4 = .ok (.iload_n 1, 1) := by decide +kernel
theorem d_P_readBoth_5 : decode b_P_readBoth 5 = .ok (.aload_n 0, 1) := by decide +kernel
theorem d_P_readBoth_6 : decode b_P_readBoth 6 = .ok (.getfield 33, 3) := by decide +kernel
theorem d_P_readBoth_9 : decode b_P_readBoth 9 = .ok (.invokevirtual 58, 3) := by decide +kernel
theorem d_P_readBoth_12 : decode b_P_readBoth 12 = .ok (.aload_n 0, 1) := by decide +kernel
theorem d_P_readBoth_13 : decode b_P_readBoth 13 = .ok (.getfield 12, 3) := by decide +kernel
theorem d_P_readBoth_16 : decode b_P_readBoth 16 = .ok (.iload_n 2, 1) := by decide +kernel
theorem d_P_readBoth_17 : decode b_P_readBoth 17 = .ok (.aload_n 0, 1) := by decide +kernel
theorem d_P_readBoth_18 : decode b_P_readBoth 18 = .ok (.getfield 37, 3) := by decide +kernel
theorem d_P_readBoth_21 : decode b_P_readBoth 21 = .ok (.invokevirtual 58, 3) := by decide +kernel
theorem d_P_readBoth_24 : decode b_P_readBoth 24 = .ok (.return_, 1) := by decide +kernel
theorem d_P_leastProductBits_0 : decode b_P_leastProductBits 0 = .ok (.aload_n 0, 1) := by decide +kernel
theorem d_P_leastProductBits_1 : decode b_P_leastProductBits 1 = .ok (.getfield 33, 3) := by decide +kernel
theorem d_P_leastProductBits_4 : decode b_P_leastProductBits 4 = .ok (.invokevirtual 164, 3) := by decide +kernel
theorem d_P_leastProductBits_7 : decode b_P_leastProductBits 7 = .ok (.aload_n 0, 1) := by decide +kernel
theorem d_P_leastProductBits_8 : decode b_P_leastProductBits 8 = .ok (.getfield 37, 3) := by decide +kernel
theorem d_P_leastProductBits_11 : decode b_P_leastProductBits 11 = .ok (.invokevirtual 164, 3) := by decide +kernel
theorem d_P_leastProductBits_14 : decode b_P_leastProductBits 14 = .ok (.iadd, 1) := by decide +kernel
theorem d_P_leastProductBits_15 : decode b_P_leastProductBits 15 = .ok (.iconst 1, 1) := by decide +kernel
theorem d_P_leastProductBits_16 : decode b_P_leastProductBits 16 = .ok (.isub, 1) := by decide +kernel
theorem d_P_leastProductBits_17 : decode b_P_leastProductBits 17 = .ok (.ireturn, 1) := by decide +kernel
theorem d_P_keepSum_0 : decode b_P_keepSum 0 = .ok (.aload_n 0, 1) := by decide +kernel
theorem d_P_keepSum_1 : decode b_P_keepSum 1 = .ok (.iload_n 1, 1) := by decide +kernel
theorem d_P_keepSum_2 : decode b_P_keepSum 2 = .ok (.invokevirtual 46, 3) := by decide +kernel
theorem d_P_keepSum_5 : decode b_P_keepSum 5 = .ok (.aload_n 0, 1) := by decide +kernel
theorem d_P_keepSum_6 : decode b_P_keepSum 6 = .ok (.iload_n 2, 1) := by decide +kernel
theorem d_P_keepSum_7 : decode b_P_keepSum 7 = .ok (.iload_n 3, 1) := by decide +kernel
theorem d_P_keepSum_8 : decode b_P_keepSum 8 = .ok (.invokevirtual 65, 3) := by decide +kernel
theorem d_P_keepSum_11 : decode b_P_keepSum 11 = .ok (.aload_n 0, 1) := by decide +kernel
theorem d_P_keepSum_12 : decode b_P_keepSum 12 = .ok (.iload_n 2, 1) := by decide +kernel
theorem d_P_keepSum_13 : decode b_P_keepSum 13 = .ok (.iload_n 3, 1) := by decide +kernel
theorem d_P_keepSum_14 : decode b_P_keepSum 14 = .ok (.invokevirtual 83, 3) := by decide +kernel
theorem d_P_keepSum_17 : decode b_P_keepSum 17 = .ok (.aload_n 0, 1) := by decide +kernel
theorem d_P_keepSum_18 : decode b_P_keepSum 18 = .ok (.getfield 40, 3) := by decide +kernel
theorem d_P_keepSum_21 : decode b_P_keepSum 21 = .ok (.aload_n 0, 1) := by decide +kernel
theorem d_P_keepSum_22 : decode b_P_keepSum 22 = .ok (.getfield 33, 3) := by decide +kernel
theorem d_P_keepSum_25 : decode b_P_keepSum 25 = .ok (.aload_n 0, 1) := by decide +kernel
theorem d_P_keepSum_26 : decode b_P_keepSum 26 = .ok (.getfield 37, 3) := by decide +kernel
theorem d_P_keepSum_29 : decode b_P_keepSum 29 = .ok (.iload 4, 2) := by decide +kernel
theorem d_P_keepSum_31 : decode b_P_keepSum 31 = .ok (.invokevirtual 97, 3) := by decide +kernel
theorem d_P_keepSum_34 : decode b_P_keepSum 34 = .ok (.aload_n 0, 1) := by decide +kernel
theorem d_P_keepSum_35 : decode b_P_keepSum 35 = .ok (.iload_n 1, 1) := by decide +kernel
theorem d_P_keepSum_36 : decode b_P_keepSum 36 = .ok (.aload_n 0, 1) := by decide +kernel
theorem d_P_keepSum_37 : decode b_P_keepSum 37 = .ok (.getfield 40, 3) := by decide +kernel
theorem d_P_keepSum_40 : decode b_P_keepSum 40 = .ok (.invokevirtual 54, 3) := by decide +kernel
theorem d_P_keepSum_43 : decode b_P_keepSum 43 = .ok (.ireturn, 1) := by decide +kernel
theorem d_P_keep_0 : decode b_P_keep 0 = .ok (.aload_n 2, 1) := by decide +kernel
theorem d_P_keep_1 : decode b_P_keep 1 = .ok (.invokevirtual 164, 3) := by decide +kernel
theorem d_P_keep_4 : decode b_P_keep 4 = .ok (.istore_n 3, 1) := by decide +kernel
theorem d_P_keep_5 : decode b_P_keep 5 = .ok (.aload_n 0, 1) := by decide +kernel
theorem d_P_keep_6 : decode b_P_keep 6 = .ok (.iload_n 3, 1) := by decide +kernel
theorem d_P_keep_7 : decode b_P_keep 7 = .ok (.invokevirtual 90, 3) := by decide +kernel
theorem d_P_keep_10 : decode b_P_keep 10 = .ok (.aload_n 0, 1) := by decide +kernel
theorem d_P_keep_11 : decode b_P_keep 11 = .ok (.getfield 12, 3) := by decide +kernel
theorem d_P_keep_14 : decode b_P_keep 14 = .ok (.iload_n 1, 1) := by decide +kernel
theorem d_P_keep_15 : decode b_P_keep 15 = .ok (.aload_n 2, 1) := by decide +kernel
theorem d_P_keep_16 : decode b_P_keep 16 = .ok (.invokevirtual 197, 3) := by decide +kernel
theorem d_P_keep_19 : decode b_P_keep 19 = .ok (.iload_n 3, 1) := by decide +kernel
theorem d_P_keep_20 : decode b_P_keep 20 = .ok (.ireturn, 1) := by decide +kernel
