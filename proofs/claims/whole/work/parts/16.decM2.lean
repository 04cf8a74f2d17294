theorem d_M_subtract_10 : decode b_M_subtract 10 = .ok (.iconst 0, 1) := by decide +kernel
theorem d_M_subtract_11 : decode b_M_subtract 11 = .ok (.goto 4, 3) := by decide +kernel
theorem d_M_subtract_14 : decode b_M_subtract 14 = .ok (.iconst 1, 1) := by decide +kernel
theorem d_M_subtract_15 : decode b_M_subtract 15 = .ok (.invokevirtual 73, 3) := by decide +kernel
theorem d_M_subtract_18 : decode b_M_subtract 18 = .ok (.ifCond .eq 5, 3) := by decide +kernel
theorem d_M_subtract_21 : decode b_M_subtract 21 = .ok (.iconst 0, 1) := by decide +kernel
theorem d_M_subtract_22 : decode b_M_subtract 22 = .ok (.ireturn, 1) := by decide +kernel
theorem d_M_subtract_23 : decode b_M_subtract 23 = .ok (.aload_n 0, 1) := by decide +kernel
theorem d_M_subtract_24 : decode b_M_subtract 24 = .ok (.iconst 0, 1) := by decide +kernel
theorem d_M_subtract_25 : decode b_M_subtract 25 = .ok (.iload_n 2, 1) := by decide +kernel
theorem d_M_subtract_26 : decode b_M_subtract 26 = .ok (.invokevirtual 84, 3) := by decide +kernel
theorem d_M_subtract_29 : decode b_M_subtract 29 = .ok (.aload_n 0, 1) := by decide +kernel
theorem d_M_subtract_30 : decode b_M_subtract 30 = .ok (.iconst 1, 1) := by decide +kernel
theorem d_M_subtract_31 : decode b_M_subtract 31 = .ok (.iload_n 3, 1) := by decide +kernel
theorem d_M_subtract_32 : decode b_M_subtract 32 = .ok (.invokevirtual 84, 3) := by decide +kernel
theorem d_M_subtract_35 : decode b_M_subtract 35 = .ok (.aload_n 0, 1) := by decide +kernel
theorem d_M_subtract_36 : decode b_M_subtract 36 = .ok (.aload_n 0, 1) := by decide +kernel
theorem d_M_subtract_37 : decode b_M_subtract 37 = .ok (.getfield 23, 3) := by decide +kernel
theorem d_M_subtract_40 : decode b_M_subtract 40 = .ok (.iload_n 2, 1) := by decide +kernel
theorem d_M_subtract_41 : decode b_M_subtract 41 = .ok (.iaload, 1) := by decide +kernel
theorem d_M_subtract_42 : decode b_M_subtract 42 = .ok (.aload_n 0, 1) := by decide +kernel
theorem d_M_subtract_43 : decode b_M_subtract 43 = .ok (.getfield 23, 3) := by decide +kernel
theorem d_M_subtract_46 : decode b_M_subtract 46 = .ok (.iload_n 3, 1) := by decide +kernel
theorem d_M_subtract_47 : decode b_M_subtract 47 = .ok (.iaload, 1) := by decide +kernel
theorem d_M_subtract_48 : decode b_M_subtract 48 = .ok (.ineg, 1) := by decide +kernel
theorem d_M_subtract_49 : decode b_M_subtract 49 = .ok (.invokevirtual 105, 3) := by decide +kernel
theorem d_M_subtract_52 : decode b_M_subtract 52 = .ok (.istore 4, 2) := by decide +kernel
theorem d_M_subtract_54 : decode b_M_subtract 54 = .ok (.aload_n 0, 1) := by decide +kernel
theorem d_M_subtract_55 : decode b_M_subtract 55 = .ok (.iload_n 1, 1) := by decide +kernel
theorem d_M_subtract_56 : decode b_M_subtract 56 = .ok (.iconst 0, 1) := by decide +kernel
theorem d_M_subtract_57 : decode b_M_subtract 57 = .ok (.iload 4, 2) := by decide +kernel
theorem d_M_subtract_59 : decode b_M_subtract 59 = .ok (.iconst 2, 1) := by decide +kernel
theorem d_M_subtract_60 : decode b_M_subtract 60 = .ok (.invokevirtual 80, 3) := by decide +kernel
theorem d_M_subtract_63 : decode b_M_subtract 63 = .ok (.ireturn, 1) := by decide +kernel
theorem d_M_multiply_0 : decode b_M_multiply 0 = .ok (.aload_n 0, 1) := by decide +kernel
theorem d_M_multiply_1 : decode b_M_multiply 1 = .ok (.iload_n 1, 1) := by decide +kernel
theorem d_M_multiply_2 : decode b_M_multiply 2 = .ok (.iload_n 2, 1) := by decide +kernel
theorem d_M_multiply_3 : decode b_M_multiply 3 = .ok (.iload_n 3, 1) := by decide +kernel
theorem d_M_multiply_4 : decode b_M_multiply 4 = .ok (.invokestatic 95, 3) := by decide +kernel
theorem d_M_multiply_7 : decode b_M_multiply 7 = .ok (.ifCond .eq 7, 3) := by decide +kernel
theorem d_M_multiply_10 : decode b_M_multiply 10 = .ok (.iconst 0, 1) := by decide +kernel
theorem d_M_multiply_11 : decode b_M_multiply 11 = .ok (.goto 4, 3) := by decide +kernel
theorem d_M_multiply_14 : decode b_M_multiply 14 = .ok (.iconst 1, 1) := by decide +kernel
theorem d_M_multiply_15 : decode b_M_multiply 15 = .ok (.invokevirtual 73, 3) := by decide +kernel
theorem d_M_multiply_18 : decode b_M_multiply 18 = .ok (.ifCond .eq 5, 3) := by decide +kernel
theorem d_M_multiply_21 : decode b_M_multiply 21 = .ok (.iconst 0, 1) := by decide +kernel
theorem d_M_multiply_22 : decode b_M_multiply 22 = .ok (.ireturn, 1) := by decide +kernel
theorem d_M_multiply_23 : decode b_M_multiply 23 = .ok (.aload_n 0, 1) := by decide +kernel
theorem d_M_multiply_24 : decode b_M_multiply 24 = .ok (.iconst 3, 1) := by decide +kernel
theorem d_M_multiply_25 : decode b_M_multiply 25 = .ok (.iload_n 2, 1) := by decide +kernel
theorem d_M_multiply_26 : decode b_M_multiply 26 = .ok (.invokevirtual 84, 3) := by decide +kernel
theorem d_M_multiply_29 : decode b_M_multiply 29 = .ok (.aload_n 0, 1) := by decide +kernel
theorem d_M_multiply_30 : decode b_M_multiply 30 = .ok (.iconst 4, 1) := by decide +kernel
theorem d_M_multiply_31 : decode b_M_multiply 31 = .ok (.iload_n 3, 1) := by decide +kernel
theorem d_M_multiply_32 : decode b_M_multiply 32 = .ok (.invokevirtual 84, 3) := by decide +kernel
theorem d_M_multiply_35 : decode b_M_multiply 35 = .ok (.aload_n 0, 1) := by decide +kernel
theorem d_M_multiply_36 : decode b_M_multiply 36 = .ok (.iconst 2, 1) := by decide +kernel
theorem d_M_multiply_37 : decode b_M_multiply 37 = .ok (.iconst 3, 1) := by decide +kernel
theorem d_M_multiply_38 : decode b_M_multiply 38 = .ok (.iconst 4, 1) := by decide +kernel
theorem d_M_multiply_39 : decode b_M_multiply 39 = .ok (.invokevirtual 108, 3) := by decide +kernel
theorem d_M_multiply_42 : decode b_M_multiply 42 = .ok (.aload_n 0, 1) := by decide +kernel
theorem d_M_multiply_43 : decode b_M_multiply 43 = .ok (.iload_n 1, 1) := by decide +kernel
theorem d_M_multiply_44 : decode b_M_multiply 44 = .ok (.iconst 2, 1) := by decide +kernel
theorem d_M_multiply_45 : decode b_M_multiply 45 = .ok (.aload_n 0, 1) := by decide +kernel
theorem d_M_multiply_46 : decode b_M_multiply 46 = .ok (.getfield 23, 3) := by decide +kernel
theorem d_M_multiply_49 : decode b_M_multiply 49 = .ok (.iload_n 2, 1) := by decide +kernel
theorem d_M_multiply_50 : decode b_M_multiply 50 = .ok (.iaload, 1) := by decide +kernel
theorem d_M_multiply_51 : decode b_M_multiply 51 = .ok (.aload_n 0, 1) := by decide +kernel
theorem d_M_multiply_52 : decode b_M_multiply 52 = .ok (.getfield 23, 3) := by decide +kernel
theorem d_M_multiply_55 : decode b_M_multiply 55 = .ok (.iload_n 3, 1) := by decide +kernel
theorem d_M_multiply_56 : decode b_M_multiply 56 = .ok (.iaload, 1) := by decide +kernel
theorem d_M_multiply_57 : decode b_M_multiply 57 = .ok (.imul, 1) := by decide +kernel
theorem d_M_multiply_58 : decode b_M_multiply 58 = .ok (.iconst 2, 1) := by decide +kernel
theorem d_M_multiply_59 : decode b_M_multiply 59 = .ok (.invokevirtual 80, 3) := by decide +kernel
theorem d_M_multiply_62 : decode b_M_multiply 62 = .ok (.ireturn, 1) := by decide +kernel
theorem d_M_addProduct_0 : decode b_M_addProduct 0 = .ok (.aload_n 0, 1) := by decide +kernel
theorem d_M_addProduct_1 : decode b_M_addProduct 1 = .ok (.iload_n 1, 1) := by decide +kernel
theorem d_M_addProduct_2 : decode b_M_addProduct 2 = .ok (.iload_n 2, 1) := by decide +kernel
theorem d_M_addProduct_3 : decode b_M_addProduct 3 = .ok (.iload_n 3, 1) := by decide +kernel
theorem d_M_addProduct_4 : decode b_M_addProduct 4 = .ok (.invokestatic 95, 3) := by decide +kernel
theorem d_M_addProduct_7 : decode b_M_addProduct 7 = .ok (.ifCond .eq 7, 3) := by decide +kernel
theorem d_M_addProduct_10 : decode b_M_addProduct 10 = .ok (.iconst 0, 1) := by decide +kernel
theorem d_M_addProduct_11 : decode b_M_addProduct 11 = .ok (.goto 4, 3) := by decide +kernel
theorem d_M_addProduct_14 : decode b_M_addProduct 14 = .ok (.iconst 1, 1) := by decide +kernel
theorem d_M_addProduct_15 : decode b_M_addProduct 15 = .ok (.invokevirtual 73, 3) := by decide +kernel
theorem d_M_addProduct_18 : decode b_M_addProduct 18 = .ok (.ifCond .eq 5, 3) := by decide +kernel
theorem d_M_addProduct_21 : decode b_M_addProduct 21 = .ok (.iconst 0, 1) := by decide +kernel
theorem d_M_addProduct_22 : decode b_M_addProduct 22 = .ok (.ireturn, 1) := by decide +kernel
theorem d_M_addProduct_23 : decode b_M_addProduct 23 = .ok (.aload_n 0, 1) := by decide +kernel
theorem d_M_addProduct_24 : decode b_M_addProduct 24 = .ok (.iconst 3, 1) := by decide +kernel
theorem d_M_addProduct_25 : decode b_M_addProduct 25 = .ok (.iload_n 2, 1) := by decide +kernel
theorem d_M_addProduct_26 : decode b_M_addProduct 26 = .ok (.invokevirtual 84, 3) := by decide +kernel
theorem d_M_addProduct_29 : decode b_M_addProduct 29 = .ok (.aload_n 0, 1) := by decide +kernel
theorem d_M_addProduct_30 : decode b_M_addProduct 30 = .ok (.iconst 4, 1) := by decide +kernel
theorem d_M_addProduct_31 : decode b_M_addProduct 31 = .ok (.iload_n 3, 1) := by decide +kernel
theorem d_M_addProduct_32 : decode b_M_addProduct 32 = .ok (.invokevirtual 84, 3) := by decide +kernel
theorem d_M_addProduct_35 : decode b_M_addProduct 35 = .ok (.aload_n 0, 1) := by decide +kernel
theorem d_M_addProduct_36 : decode b_M_addProduct 36 = .ok (.iconst 1, 1) := by decide +kernel
theorem d_M_addProduct_37 : decode b_M_addProduct 37 = .ok (.iconst 3, 1) := by decide +kernel
theorem d_M_addProduct_38 : decode b_M_addProduct 38 = .ok (.iconst 4, 1) := by decide +kernel
theorem d_M_addProduct_39 : decode b_M_addProduct 39 = .ok (.invokevirtual 108, 3) := by decide +kernel
theorem d_M_addProduct_42 : decode b_M_addProduct 42 = .ok (.aload_n 0, 1) := by decide +kernel
theorem d_M_addProduct_43 : decode b_M_addProduct 43 = .ok (.iconst 0, 1) := by decide +kernel
theorem d_M_addProduct_44 : decode b_M_addProduct 44 = .ok (.iload_n 1, 1) := by decide +kernel
theorem d_M_addProduct_45 : decode b_M_addProduct 45 = .ok (.invokevirtual 84, 3) := by decide +kernel
theorem d_M_addProduct_48 : decode b_M_addProduct 48 = .ok (.aload_n 0, 1) := by decide +kernel
theorem d_M_addProduct_49 : decode b_M_addProduct 49 = .ok (.getfield 23, 3) := by decide +kernel
theorem d_M_addProduct_52 : decode b_M_addProduct 52 = .ok (.iload_n 2, 1) := by decide +kernel
theorem d_M_addProduct_53 : decode b_M_addProduct 53 = .ok (.iaload, 1) := by decide +kernel
theorem d_M_addProduct_54 : decode b_M_addProduct 54 = .ok (.aload_n 0, 1) := by decide +kernel
theorem d_M_addProduct_55 : decode b_M_addProduct 55 = .ok (.getfield 23, 3) := by decide +kernel
theorem d_M_addProduct_58 : decode b_M_addProduct 58 = .ok (.iload_n 3, 1) := by decide +kernel
theorem d_M_addProduct_59 : decode b_M_addProduct 59 = .ok (.iaload, 1) := by decide +kernel
theorem d_M_addProduct_60 : decode b_M_addProduct 60 = .ok (.imul, 1) := by decide +kernel
theorem d_M_addProduct_61 : decode b_M_addProduct 61 = .ok (.istore 5, 2) := by decide +kernel
theorem d_M_addProduct_63 : decode b_M_addProduct 63 = .ok (.aload_n 0, 1) := by decide +kernel
theorem d_M_addProduct_64 : decode b_M_addProduct 64 = .ok (.aload_n 0, 1) := by decide +kernel
theorem d_M_addProduct_65 : decode b_M_addProduct 65 = .ok (.getfield 23, 3) := by decide +kernel
theorem d_M_addProduct_68 : decode b_M_addProduct 68 = .ok (.iload_n 1, 1) := by decide +kernel
theorem d_M_addProduct_69 : decode b_M_addProduct 69 = .ok (.iaload, 1) := by decide +kernel
theorem d_M_addProduct_70 : decode b_M_addProduct 70 = .ok (.iload 4, 2) := by decide +kernel
theorem d_M_addProduct_72 : decode b_M_addProduct 72 = .ok (.ifCond .eq 9, 3) := by decide +kernel
theorem d_M_addProduct_75 : decode b_M_addProduct 75 = .ok (.iload 5, 2) := by decide +kernel
theorem d_M_addProduct_77 : decode b_M_addProduct 77 = .ok (.ineg, 1) := by decide +kernel
theorem d_M_addProduct_78 : decode b_M_addProduct 78 = .ok (.goto 5, 3) := by decide +kernel
theorem d_M_addProduct_81 : decode b_M_addProduct 81 = .ok (.iload 5, 2) := by decide +kernel
theorem d_M_addProduct_83 : decode b_M_addProduct 83 = .ok (.invokevirtual 105, 3) := by decide +kernel
theorem d_M_addProduct_86 : decode b_M_addProduct 86 = .ok (.istore 6, 2) := by decide +kernel
theorem d_M_addProduct_88 : decode b_M_addProduct 88 = .ok (.aload_n 0, 1) := by decide +kernel
theorem d_M_addProduct_89 : decode b_M_addProduct 89 = .ok (.iload_n 1, 1) := by decide +kernel
theorem d_M_addProduct_90 : decode b_M_addProduct 90 = .ok (.iconst 0, 1) := by decide +kernel
theorem d_M_addProduct_91 : decode b_M_addProduct 91 = .ok (.iload 6, 2) := by decide +kernel
theorem d_M_addProduct_93 : decode b_M_addProduct 93 = .ok (.iconst 2, 1) := by decide +kernel
theorem d_M_addProduct_94 : decode b_M_addProduct 94 = .ok (.invokevirtual 80, 3) := by decide +kernel
theorem d_M_addProduct_97 : decode b_M_addProduct 97 = .ok (.ireturn, 1) := by decide +kernel
theorem d_M_down_0 : decode b_M_down 0 = .ok (.aload_n 0, 1) := by decide +kernel
theorem d_M_down_1 : decode b_M_down 1 = .ok (.iconst 2, 1) := by decide +kernel
theorem d_M_down_2 : decode b_M_down 2 = .ok (.iconst 0, 1) := by decide +kernel
theorem d_M_down_3 : decode b_M_down 3 = .ok (.iconst 1, 1) := by decide +kernel
theorem d_M_down_4 : decode b_M_down 4 = .ok (.invokevirtual 58, 3) := by decide +kernel
theorem d_M_down_7 : decode b_M_down 7 = .ok (.iload_n 1, 1) := by decide +kernel
theorem d_M_down_8 : decode b_M_down 8 = .ok (.ifCond .eq 42, 3) := by decide +kernel
theorem d_M_down_11 : decode b_M_down 11 = .ok (.aload_n 0, 1) := by decide +kernel
theorem d_M_down_12 : decode b_M_down 12 = .ok (.getfield 13, 3) := by decide +kernel
theorem d_M_down_15 : decode b_M_down 15 = .ok (.iconst 0, 1) := by decide +kernel
theorem d_M_down_16 : decode b_M_down 16 = .ok (.iaload, 1) := by decide +kernel
theorem d_M_down_17 : decode b_M_down 17 = .ok (.ifCond .le 33, 3) := by decide +kernel
theorem d_M_down_20 : decode b_M_down 20 = .ok (.aload_n 0, 1) := by decide +kernel
theorem d_M_down_21 : decode b_M_down 21 = .ok (.iconst 4, 1) := by decide +kernel
theorem d_M_down_22 : decode b_M_down 22 = .ok (.lconst 1, 1) := by decide +kernel
theorem d_M_down_23 : decode b_M_down 23 = .ok (.invokevirtual 76, 3) := by decide +kernel
theorem d_M_down_26 : decode b_M_down 26 = .ok (.aload_n 0, 1) := by decide +kernel
theorem d_M_down_27 : decode b_M_down 27 = .ok (.iconst 2, 1) := by decide +kernel
theorem d_M_down_28 : decode b_M_down 28 = .ok (.iconst 4, 1) := by decide +kernel
theorem d_M_down_29 : decode b_M_down 29 = .ok (.invokevirtual 92, 3) := by decide +kernel
theorem d_M_down_32 : decode b_M_down 32 = .ok (.aload_n 0, 1) := by decide +kernel
theorem d_M_down_33 : decode b_M_down 33 = .ok (.iconst 3, 1) := by decide +kernel
theorem d_M_down_34 : decode b_M_down 34 = .ok (.iconst 1, 1) := by decide +kernel
theorem d_M_down_35 : decode b_M_down 35 = .ok (.invokevirtual 62, 3) := by decide +kernel
theorem d_M_down_38 : decode b_M_down 38 = .ok (.aload_n 0, 1) := by decide +kernel
theorem d_M_down_39 : decode b_M_down 39 = .ok (.iconst 3, 1) := by decide +kernel
theorem d_M_down_40 : decode b_M_down 40 = .ok (.iconst 0, 1) := by decide +kernel
theorem d_M_down_41 : decode b_M_down 41 = .ok (.invokevirtual 102, 3) := by decide +kernel
theorem d_M_down_44 : decode b_M_down 44 = .ok (.aload_n 0, 1) := by decide +kernel
theorem d_M_down_45 : decode b_M_down 45 = .ok (.iconst 0, 1) := by decide +kernel
theorem d_M_down_46 : decode b_M_down 46 = .ok (.iconst 3, 1) := by decide +kernel
theorem d_M_down_47 : decode b_M_down 47 = .ok (.invokevirtual 62, 3) := by decide +kernel
theorem d_M_down_50 : decode b_M_down 50 = .ok (.return_, 1) := by decide +kernel
theorem d_M_divide_0 : decode b_M_divide 0 = .ok (.aload_n 0, 1) := by decide +kernel
theorem d_M_divide_1 : decode b_M_divide 1 = .ok (.iload_n 1, 1) := by decide +kernel
theorem d_M_divide_2 : decode b_M_divide 2 = .ok (.iload_n 2, 1) := by decide +kernel
theorem d_M_divide_3 : decode b_M_divide 3 = .ok (.iload_n 3, 1) := by decide +kernel
theorem d_M_divide_4 : decode b_M_divide 4 = .ok (.invokestatic 95, 3) := by decide +kernel
theorem d_M_divide_7 : decode b_M_divide 7 = .ok (.ifCond .eq 11, 3) := by decide +kernel
theorem d_M_divide_10 : decode b_M_divide 10 = .ok (.iload 4, 2) := by decide +kernel
theorem d_M_divide_12 : decode b_M_divide 12 = .ok (.invokestatic 36, 3) := by decide +kernel
theorem d_M_divide_15 : decode b_M_divide 15 = .ok (.ifCond .ne 7, 3) := by decide +kernel
theorem d_M_divide_18 : decode b_M_divide 18 = .ok (.iconst 1, 1) := by decide +kernel
theorem d_M_divide_19 : decode b_M_divide 19 = .ok (.goto 27, 3) := by decide +kernel
theorem d_M_divide_22 : decode b_M_divide 22 = .ok (.iload_n 1, 1) := by decide +kernel
theorem d_M_divide_23 : decode b_M_divide 23 = .ok (.iload_n 2, 1) := by decide +kernel
theorem d_M_divide_24 : decode b_M_divide 24 = .ok (.if_icmp .ne 7, 3) := by decide +kernel
theorem d_M_divide_27 : decode b_M_divide 27 = .ok (.iconst 2, 1) := by decide +kernel
theorem d_M_divide_28 : decode b_M_divide 28 = .ok (.goto 18, 3) := by decide +kernel
theorem d_M_divide_31 : decode b_M_divide 31 = .ok (.aload_n 0, 1) := by decide +kernel
theorem d_M_divide_32 : decode b_M_divide 32 = .ok (.getfield 23, 3) := by decide +kernel
theorem d_M_divide_35 : decode b_M_divide 35 = .ok (.iload 4, 2) := by decide +kernel
theorem d_M_divide_37 : decode b_M_divide 37 = .ok (.iaload, 1) := by decide +kernel
theorem d_M_divide_38 : decode b_M_divide 38 = .ok (.ifCond .gt 7, 3) := by decide +kernel
theorem d_M_divide_41 : decode b_M_divide 41 = .ok (.iconst 3, 1) := by decide +kernel
theorem d_M_divide_42 : decode b_M_divide 42 = .ok (.goto 4, 3) := by decide +kernel
theorem d_M_divide_45 : decode b_M_divide 45 = .ok (.iconst 0, 1) := by decide +kernel
theorem d_M_divide_46 : decode b_M_divide 46 = .ok (.invokevirtual 73, 3) := by decide +kernel
theorem d_M_divide_49 : decode b_M_divide 49 = .ok (.ifCond .eq 5, 3) := by decide +kernel
theorem d_M_divide_52 : decode b_M_divide 52 = .ok (.iconst 0, 1) := by decide +kernel
theorem d_M_divide_53 : decode b_M_divide 53 = .ok (.ireturn, 1) := by decide +kernel
theorem d_M_divide_54 : decode b_M_divide 54 = .ok (.aload_n 0, 1) := by decide +kernel
theorem d_M_divide_55 : decode b_M_divide 55 = .ok (.getfield 23, 3) := by decide +kernel
theorem d_M_divide_58 : decode b_M_divide 58 = .ok (.iload_n 3, 1) := by decide +kernel
theorem d_M_divide_59 : decode b_M_divide 59 = .ok (.iaload, 1) := by decide +kernel
theorem d_M_divide_60 : decode b_M_divide 60 = .ok (.istore 5, 2) := by decide +kernel
theorem d_M_divide_62 : decode b_M_divide 62 = .ok (.aload_n 0, 1) := by decide +kernel
theorem d_M_divide_63 : decode b_M_divide 63 = .ok (.iconst 0, 1) := by decide +kernel
theorem d_M_divide_64 : decode b_M_divide 64 = .ok (.iload_n 3, 1) := by decide +kernel
theorem d_M_divide_65 : decode b_M_divide 65 = .ok (.invokevirtual 84, 3) := by decide +kernel
theorem d_M_divide_68 : decode b_M_divide 68 = .ok (.aload_n 0, 1) := by decide +kernel
theorem d_M_divide_69 : decode b_M_divide 69 = .ok (.iconst 1, 1) := by decide +kernel
theorem d_M_divide_70 : decode b_M_divide 70 = .ok (.iload 4, 2) := by decide +kernel
theorem d_M_divide_72 : decode b_M_divide 72 = .ok (.invokevirtual 84, 3) := by decide +kernel
theorem d_M_divide_75 : decode b_M_divide 75 = .ok (.aload_n 0, 1) := by decide +kernel
theorem d_M_divide_76 : decode b_M_divide 76 = .ok (.iload 5, 2) := by decide +kernel
theorem d_M_divide_78 : decode b_M_divide 78 = .ok (.ifCond .ge 7, 3) := by decide +kernel
theorem d_M_divide_81 : decode b_M_divide 81 = .ok (.iconst 1, 1) := by decide +kernel
theorem d_M_divide_82 : decode b_M_divide 82 = .ok (.goto 4, 3) := by decide +kernel
theorem d_M_divide_85 : decode b_M_divide 85 = .ok (.iconst 0, 1) := by decide +kernel
theorem d_M_divide_86 : decode b_M_divide 86 = .ok (.invokevirtual 111, 3) := by decide +kernel
theorem d_M_divide_89 : decode b_M_divide 89 = .ok (.aload_n 0, 1) := by decide +kernel
theorem d_M_divide_90 : decode b_M_divide 90 = .ok (.iconst 5, 1) := by decide +kernel
theorem d_M_divide_91 : decode b_M_divide 91 = .ok (.iconst 0, 1) := by decide +kernel
theorem d_M_divide_92 : decode b_M_divide 92 = .ok (.invokevirtual 62, 3) := by decide +kernel
theorem d_M_divide_95 : decode b_M_divide 95 = .ok (.aload_n 0, 1) := by decide +kernel
theorem d_M_divide_96 : decode b_M_divide 96 = .ok (.iload_n 1, 1) := by decide +kernel
theorem d_M_divide_97 : decode b_M_divide 97 = .ok (.iconst 2, 1) := by decide +kernel
theorem d_M_divide_98 : decode b_M_divide 98 = .ok (.iload 5, 2) := by decide +kernel
theorem d_M_divide_100 : decode b_M_divide 100 = .ok (.iconst 4, 1) := by decide +kernel
theorem d_M_divide_101 : decode b_M_divide 101 = .ok (.invokevirtual 80, 3) := by decide +kernel
theorem d_M_divide_104 : decode b_M_divide 104 = .ok (.istore 6, 2) := by decide +kernel
theorem d_M_divide_106 : decode b_M_divide 106 = .ok (.aload_n 0, 1) := by decide +kernel
theorem d_M_divide_107 : decode b_M_divide 107 = .ok (.iload_n 2, 1) := by decide +kernel
theorem d_M_divide_108 : decode b_M_divide 108 = .ok (.iconst 5, 1) := by decide +kernel
theorem d_M_divide_109 : decode b_M_divide 109 = .ok (.iconst 1, 1) := by decide +kernel
theorem d_M_divide_110 : decode b_M_divide 110 = .ok (.iconst 4, 1) := by decide +kernel
theorem d_M_divide_111 : decode b_M_divide 111 = .ok (.invokevirtual 80, 3) := by decide +kernel
theorem d_M_divide_114 : decode b_M_divide 114 = .ok (.pop, 1) := by decide +kernel
theorem d_M_divide_115 : decode b_M_divide 115 = .ok (.iload 6, 2) := by decide +kernel
theorem d_M_divide_117 : decode b_M_divide 117 = .ok (.ireturn, 1) := by decide +kernel
theorem d_M_exact_0 : decode b_M_exact 0 = .ok (.aload_n 0, 1) := by decide +kernel
theorem d_M_exact_1 : decode b_M_exact 1 = .ok (.iload_n 1, 1) := by decide +kernel
theorem d_M_exact_2 : decode b_M_exact 2 = .ok (.iload_n 2, 1) := by decide +kernel
theorem d_M_exact_3 : decode b_M_exact 3 = .ok (.iload_n 3, 1) := by decide +kernel
theorem d_M_exact_4 : decode b_M_exact 4 = .ok (.invokestatic 95, 3) := by decide +kernel
theorem d_M_exact_7 : decode b_M_exact 7 = .ok (.ifCond .ne 7, 3) := by decide +kernel
theorem d_M_exact_10 : decode b_M_exact 10 = .ok (.iconst 1, 1) := by decide +kernel
theorem d_M_exact_11 : decode b_M_exact 11 = .ok (.goto 17, 3) := by decide +kernel
theorem d_M_exact_14 : decode b_M_exact 14 = .ok (.aload_n 0, 1) := by decide +kernel
theorem d_M_exact_15 : decode b_M_exact 15 = .ok (.getfield 23, 3) := by decide +kernel
theorem d_M_exact_18 : decode b_M_exact 18 = .ok (.iload_n 3, 1) := by decide +kernel
theorem d_M_exact_19 : decode b_M_exact 19 = .ok (.iaload, 1) := by decide +kernel
theorem d_M_exact_20 : decode b_M_exact 20 = .ok (.ifCond .ne 7, 3) := by decide +kernel
theorem d_M_exact_23 : decode b_M_exact 23 = .ok (.iconst 2, 1) := by decide +kernel
theorem d_M_exact_24 : decode b_M_exact 24 = .ok (.goto 4, 3) := by decide +kernel
theorem d_M_exact_27 : decode b_M_exact 27 = .ok (.iconst 0, 1) := by decide +kernel
theorem d_M_exact_28 : decode b_M_exact 28 = .ok (.invokevirtual 73, 3) := by decide +kernel
theorem d_M_exact_31 : decode b_M_exact 31 = .ok (.ifCond .eq 5, 3) := by decide +kernel
theorem d_M_exact_34 : decode b_M_exact 34 = .ok (.iconst 0, 1) := by decide +kernel
theorem d_M_exact_35 : decode b_M_exact 35 = .ok (.ireturn, 1) := by decide +kernel
theorem d_M_exact_36 : decode b_M_exact 36 = .ok (.aload_n 0, 1) := by decide +kernel
theorem d_M_exact_37 : decode b_M_exact 37 = .ok (.iconst 0, 1) := by decide +kernel
theorem d_M_exact_38 : decode b_M_exact 38 = .ok (.iload_n 2, 1) := by decide +kernel
theorem d_M_exact_39 : decode b_M_exact 39 = .ok (.invokevirtual 84, 3) := by decide +kernel
theorem d_M_exact_42 : decode b_M_exact 42 = .ok (.aload_n 0, 1) := by decide +kernel
theorem d_M_exact_43 : decode b_M_exact 43 = .ok (.iconst 1, 1) := by decide +kernel
theorem d_M_exact_44 : decode b_M_exact 44 = .ok (.iload_n 3, 1) := by decide +kernel
theorem d_M_exact_45 : decode b_M_exact 45 = .ok (.invokevirtual 84, 3) := by decide +kernel
theorem d_M_exact_48 : decode b_M_exact 48 = .ok (.aload_n 0, 1) := by decide +kernel
theorem d_M_exact_49 : decode b_M_exact 49 = .ok (.iconst 2, 1) := by decide +kernel
theorem d_M_exact_50 : decode b_M_exact 50 = .ok (.iconst 0, 1) := by decide +kernel
theorem d_M_exact_51 : decode b_M_exact 51 = .ok (.iconst 1, 1) := by decide +kernel
theorem d_M_exact_52 : decode b_M_exact 52 = .ok (.invokevirtual 58, 3) := by decide +kernel
theorem d_M_exact_55 : decode b_M_exact 55 = .ok (.aload_n 0, 1) := by decide +kernel
theorem d_M_exact_56 : decode b_M_exact 56 = .ok (.aload_n 0, 1) := by decide +kernel
theorem d_M_exact_57 : decode b_M_exact 57 = .ok (.getfield 13, 3) := by decide +kernel
theorem d_M_exact_60 : decode b_M_exact 60 = .ok (.iconst 0, 1) := by decide +kernel
theorem d_M_exact_61 : decode b_M_exact 61 = .ok (.iaload, 1) := by decide +kernel
theorem d_M_exact_62 : decode b_M_exact 62 = .ok (.ifCond .le 7, 3) := by decide +kernel
theorem d_M_exact_65 : decode b_M_exact 65 = .ok (.iconst 2, 1) := by decide +kernel
theorem d_M_exact_66 : decode b_M_exact 66 = .ok (.goto 4, 3) := by decide +kernel
theorem d_M_exact_69 : decode b_M_exact 69 = .ok (.iconst 0, 1) := by decide +kernel
theorem d_M_exact_70 : decode b_M_exact 70 = .ok (.invokevirtual 73, 3) := by decide +kernel
theorem d_M_exact_73 : decode b_M_exact 73 = .ok (.ifCond .eq 5, 3) := by decide +kernel
theorem d_M_exact_76 : decode b_M_exact 76 = .ok (.iconst 0, 1) := by decide +kernel
theorem d_M_exact_77 : decode b_M_exact 77 = .ok (.ireturn, 1) := by decide +kernel
theorem d_M_exact_78 : decode b_M_exact 78 = .ok (.aload_n 0, 1) := by decide +kernel
theorem d_M_exact_79 : decode b_M_exact 79 = .ok (.iload_n 1, 1) := by decide +kernel
theorem d_M_exact_80 : decode b_M_exact 80 = .ok (.iconst 2, 1) := by decide +kernel
theorem d_M_exact_81 : decode b_M_exact 81 = .ok (.aload_n 0, 1) := by decide +kernel
theorem d_M_exact_82 : decode b_M_exact 82 = .ok (.getfield 23, 3) := by decide +kernel
theorem d_M_exact_85 : decode b_M_exact 85 = .ok (.iload_n 2, 1) := by decide +kernel
theorem d_M_exact_86 : decode b_M_exact 86 = .ok (.iaload, 1) := by decide +kernel
theorem d_M_exact_87 : decode b_M_exact 87 = .ok (.aload_n 0, 1) := by decide +kernel
theorem d_M_exact_88 : decode b_M_exact 88 = .ok (.getfield 23, 3) := by decide +kernel
theorem d_M_exact_91 : decode b_M_exact 91 = .ok (.iload_n 3, 1) := by decide +kernel
theorem d_M_exact_92 : decode b_M_exact 92 = .ok (.iaload, 1) := by decide +kernel
theorem d_M_exact_93 : decode b_M_exact 93 = .ok (.imul, 1) := by decide +kernel
theorem d_M_exact_94 : decode b_M_exact 94 = .ok (.iconst 3, 1) := by decide +kernel
theorem d_M_exact_95 : decode b_M_exact 95 = .ok (.invokevirtual 80, 3) := by decide +kernel
theorem d_M_exact_98 : decode b_M_exact 98 = .ok (.ireturn, 1) := by decide +kernel
theorem d_M_nearest_0 : decode b_M_nearest 0 = .ok (.aload_n 0, 1) := by decide +kernel
theorem d_M_nearest_1 : decode b_M_nearest 1 = .ok (.iload_n 1, 1) := by decide +kernel
theorem d_M_nearest_2 : decode b_M_nearest 2 = .ok (.iload_n 2, 1) := by decide +kernel
theorem d_M_nearest_3 : decode b_M_nearest 3 = .ok (.iload_n 3, 1) := by decide +kernel
theorem d_M_nearest_4 : decode b_M_nearest 4 = .ok (.invokestatic 95, 3) := by decide +kernel
theorem d_M_nearest_7 : decode b_M_nearest 7 = .ok (.ifCond .ne 7, 3) := by decide +kernel
theorem d_M_nearest_10 : decode b_M_nearest 10 = .ok (.iconst 1, 1) := by decide +kernel
theorem d_M_nearest_11 : decode b_M_nearest 11 = .ok (.goto 17, 3) := by decide +kernel
theorem d_M_nearest_14 : decode b_M_nearest 14 = .ok (.aload_n 0, 1) := by decide +kernel
theorem d_M_nearest_15 : decode b_M_nearest 15 = .ok (.getfield 23, 3) := by decide +kernel
theorem d_M_nearest_18 : decode b_M_nearest 18 = .ok (.iload_n 3, 1) := by decide +kernel
theorem d_M_nearest_19 : decode b_M_nearest 19 = .ok (.iaload, 1) := by decide +kernel
theorem d_M_nearest_20 : decode b_M_nearest 20 = .ok (.ifCond .gt 7, 3) := by decide +kernel
theorem d_M_nearest_23 : decode b_M_nearest 23 = .ok (.iconst 2, 1) := by decide +kernel
theorem d_M_nearest_24 : decode b_M_nearest 24 = .ok (.goto 4, 3) := by decide +kernel
theorem d_M_nearest_27 : decode b_M_nearest 27 = .ok (.iconst 0, 1) := by decide +kernel
theorem d_M_nearest_28 : decode b_M_nearest 28 = .ok (.invokevirtual 73, 3) := by decide +kernel
theorem d_M_nearest_31 : decode b_M_nearest 31 = .ok (.ifCond .eq 5, 3) := by decide +kernel
theorem d_M_nearest_34 : decode b_M_nearest 34 = .ok (.iconst 0, 1) := by decide +kernel
theorem d_M_nearest_35 : decode b_M_nearest 35 = .ok (.ireturn, 1) := by decide +kernel
theorem d_M_nearest_36 : decode b_M_nearest 36 = .ok (.aload_n 0, 1) := by decide +kernel
theorem d_M_nearest_37 : decode b_M_nearest 37 = .ok (.getfield 23, 3) := by decide +kernel
theorem d_M_nearest_40 : decode b_M_nearest 40 = .ok (.iload_n 2, 1) := by decide +kernel
theorem d_M_nearest_41 : decode b_M_nearest 41 = .ok (.iaload, 1) := by decide +kernel
theorem d_M_nearest_42 : decode b_M_nearest 42 = .ok (.istore 4, 2) := by decide +kernel
theorem d_M_nearest_44 : decode b_M_nearest 44 = .ok (.aload_n 0, 1) := by decide +kernel
theorem d_M_nearest_45 : decode b_M_nearest 45 = .ok (.iconst 0, 1) := by decide +kernel
theorem d_M_nearest_46 : decode b_M_nearest 46 = .ok (.iload_n 2, 1) := by decide +kernel
theorem d_M_nearest_47 : decode b_M_nearest 47 = .ok (.invokevirtual 84, 3) := by decide +kernel
theorem d_M_nearest_50 : decode b_M_nearest 50 = .ok (.aload_n 0, 1) := by decide +kernel
theorem d_M_nearest_51 : decode b_M_nearest 51 = .ok (.iconst 1, 1) := by decide +kernel
theorem d_M_nearest_52 : decode b_M_nearest 52 = .ok (.iload_n 3, 1) := by decide +kernel
theorem d_M_nearest_53 : decode b_M_nearest 53 = .ok (.invokevirtual 84, 3) := by decide +kernel
theorem d_M_nearest_56 : decode b_M_nearest 56 = .ok (.aload_n 0, 1) := by decide +kernel
theorem d_M_nearest_57 : decode b_M_nearest 57 = .ok (.iconst 2, 1) := by decide +kernel
theorem d_M_nearest_58 : decode b_M_nearest 58 = .ok (.iconst 0, 1) := by decide +kernel
theorem d_M_nearest_59 : decode b_M_nearest 59 = .ok (.iconst 1, 1) := by decide +kernel
theorem d_M_nearest_60 : decode b_M_nearest 60 = .ok (.invokevirtual 58, 3) := by decide +kernel
theorem d_M_nearest_63 : decode b_M_nearest 63 = .ok (.aload_n 0, 1) := by decide +kernel
theorem d_M_nearest_64 : decode b_M_nearest 64 = .ok (.iconst 0, 1) := by decide +kernel
theorem d_M_nearest_65 : decode b_M_nearest 65 = .ok (.iconst 2, 1) := by decide +kernel
theorem d_M_nearest_66 : decode b_M_nearest 66 = .ok (.invokevirtual 87, 3) := by decide +kernel
theorem d_M_nearest_69 : decode b_M_nearest 69 = .ok (.aload_n 0, 1) := by decide +kernel
theorem d_M_nearest_70 : decode b_M_nearest 70 = .ok (.iconst 0, 1) := by decide +kernel
theorem d_M_nearest_71 : decode b_M_nearest 71 = .ok (.iconst 1, 1) := by decide +kernel
theorem d_M_nearest_72 : decode b_M_nearest 72 = .ok (.invokevirtual 99, 3) := by decide +kernel
theorem d_M_nearest_75 : decode b_M_nearest 75 = .ok (.istore 5, 2) := by decide +kernel
theorem d_M_nearest_77 : decode b_M_nearest 77 = .ok (.aload_n 0, 1) := by decide +kernel
theorem d_M_nearest_78 : decode b_M_nearest 78 = .ok (.getfield 13, 3) := by decide +kernel
theorem d_M_nearest_81 : decode b_M_nearest 81 = .ok (.iconst 2, 1) := by decide +kernel
theorem d_M_nearest_82 : decode b_M_nearest 82 = .ok (.iaload, 1) := by decide +kernel
theorem d_M_nearest_83 : decode b_M_nearest 83 = .ok (.ifCond .le 21, 3) := by decide +kernel
theorem d_M_nearest_86 : decode b_M_nearest 86 = .ok (.aload_n 0, 1) := by decide +kernel
theorem d_M_nearest_87 : decode b_M_nearest 87 = .ok (.getfield 7, 3) := by decide +kernel
theorem d_M_nearest_90 : decode b_M_nearest 90 = .ok (.sipush 6400, 3) := by decide +kernel
theorem d_M_nearest_93 : decode b_M_nearest 93 = .ok (.iaload, 1) := by decide +kernel
theorem d_M_nearest_94 : decode b_M_nearest 94 = .ok (.iconst 2, 1) := by decide +kernel
theorem d_M_nearest_95 : decode b_M_nearest 95 = .ok (.irem, 1) := by decide +kernel
theorem d_M_nearest_96 : decode b_M_nearest 96 = .ok (.iconst 1, 1) := by decide +kernel
theorem d_M_nearest_97 : decode b_M_nearest 97 = .ok (.if_icmp .ne 7, 3) := by decide +kernel
theorem d_M_nearest_100 : decode b_M_nearest 100 = .ok (.iconst 1, 1) := by decide +kernel
theorem d_M_nearest_101 : decode b_M_nearest 101 = .ok (.goto 4, 3) := by decide +kernel
theorem d_M_nearest_104 : decode b_M_nearest 104 = .ok (.iconst 0, 1) := by decide +kernel
theorem d_M_nearest_105 : decode b_M_nearest 105 = .ok (.istore 6, 2) := by decide +kernel
theorem d_M_nearest_107 : decode b_M_nearest 107 = .ok (.iload 5, 2) := by decide +kernel
theorem d_M_nearest_109 : decode b_M_nearest 109 = .ok (.ifCond .gt 13, 3) := by decide +kernel
theorem d_M_nearest_112 : decode b_M_nearest 112 = .ok (.iload 5, 2) := by decide +kernel
theorem d_M_nearest_114 : decode b_M_nearest 114 = .ok (.ifCond .ne 20, 3) := by decide +kernel
theorem d_M_nearest_117 : decode b_M_nearest 117 = .ok (.iload 6, 2) := by decide +kernel
theorem d_M_nearest_119 : decode b_M_nearest 119 = .ok (.ifCond .eq 15, 3) := by decide +kernel
theorem d_M_nearest_122 : decode b_M_nearest 122 = .ok (.aload_n 0, 1) := by decide +kernel
theorem d_M_nearest_123 : decode b_M_nearest 123 = .ok (.iconst 4, 1) := by decide +kernel
theorem d_M_nearest_124 : decode b_M_nearest 124 = .ok (.lconst 1, 1) := by decide +kernel
theorem d_M_nearest_125 : decode b_M_nearest 125 = .ok (.invokevirtual 76, 3) := by decide +kernel
theorem d_M_nearest_128 : decode b_M_nearest 128 = .ok (.aload_n 0, 1) := by decide +kernel
theorem d_M_nearest_129 : decode b_M_nearest 129 = .ok (.iconst 2, 1) := by decide +kernel
theorem d_M_nearest_130 : decode b_M_nearest 130 = .ok (.iconst 4, 1) := by decide +kernel
theorem d_M_nearest_131 : decode b_M_nearest 131 = .ok (.invokevirtual 92, 3) := by decide +kernel
theorem d_M_nearest_134 : decode b_M_nearest 134 = .ok (.aload_n 0, 1) := by decide +kernel
theorem d_M_nearest_135 : decode b_M_nearest 135 = .ok (.iload_n 1, 1) := by decide +kernel
theorem d_M_nearest_136 : decode b_M_nearest 136 = .ok (.iconst 2, 1) := by decide +kernel
theorem d_M_nearest_137 : decode b_M_nearest 137 = .ok (.iload 4, 2) := by decide +kernel
theorem d_M_nearest_139 : decode b_M_nearest 139 = .ok (.iconst 3, 1) := by decide +kernel
theorem d_M_nearest_140 : decode b_M_nearest 140 = .ok (.invokevirtual 80, 3) := by decide +kernel
theorem d_M_nearest_143 : decode b_M_nearest 143 = .ok (.ireturn, 1) := by decide +kernel
theorem d_M_gcd_0 : decode b_M_gcd 0 = .ok (.aload_n 0, 1) := by decide +kernel
theorem d_M_gcd_1 : decode b_M_gcd 1 = .ok (.iload_n 1, 1) := by decide +kernel
theorem d_M_gcd_2 : decode b_M_gcd 2 = .ok (.iload_n 2, 1) := by decide +kernel
theorem d_M_gcd_3 : decode b_M_gcd 3 = .ok (.iload_n 3, 1) := by decide +kernel
theorem d_M_gcd_4 : decode b_M_gcd 4 = .ok (.invokestatic 95, 3) := by decide +kernel
theorem d_M_gcd_7 : decode b_M_gcd 7 = .ok (.ifCond .eq 7, 3) := by decide +kernel
theorem d_M_gcd_10 : decode b_M_gcd 10 = .ok (.iconst 0, 1) := by decide +kernel
theorem d_M_gcd_11 : decode b_M_gcd 11 = .ok (.goto 4, 3) := by decide +kernel
theorem d_M_gcd_14 : decode b_M_gcd 14 = .ok (.iconst 1, 1) := by decide +kernel
theorem d_M_gcd_15 : decode b_M_gcd 15 = .ok (.invokevirtual 73, 3) := by decide +kernel
theorem d_M_gcd_18 : decode b_M_gcd 18 = .ok (.ifCond .eq 5, 3) := by decide +kernel
theorem d_M_gcd_21 : decode b_M_gcd 21 = .ok (.iconst 0, 1) := by decide +kernel
theorem d_M_gcd_22 : decode b_M_gcd 22 = .ok (.ireturn, 1) := by decide +kernel
theorem d_M_gcd_23 : decode b_M_gcd 23 = .ok (.aload_n 0, 1) := by decide +kernel
theorem d_M_gcd_24 : decode b_M_gcd 24 = .ok (.iconst 0, 1) := by decide +kernel
theorem d_M_gcd_25 : decode b_M_gcd 25 = .ok (.iload_n 2, 1) := by decide +kernel
theorem d_M_gcd_26 : decode b_M_gcd 26 = .ok (.invokevirtual 84, 3) := by decide +kernel
theorem d_M_gcd_29 : decode b_M_gcd 29 = .ok (.aload_n 0, 1) := by decide +kernel
theorem d_M_gcd_30 : decode b_M_gcd 30 = .ok (.iconst 1, 1) := by decide +kernel
theorem d_M_gcd_31 : decode b_M_gcd 31 = .ok (.iload_n 3, 1) := by decide +kernel
theorem d_M_gcd_32 : decode b_M_gcd 32 = .ok (.invokevirtual 84, 3) := by decide +kernel
theorem d_M_gcd_35 : decode b_M_gcd 35 = .ok (.aload_n 0, 1) := by decide +kernel
theorem d_M_gcd_36 : decode b_M_gcd 36 = .ok (.iconst 0, 1) := by decide +kernel
theorem d_M_gcd_37 : decode b_M_gcd 37 = .ok (.iconst 1, 1) := by decide +kernel
theorem d_M_gcd_38 : decode b_M_gcd 38 = .ok (.invokevirtual 115, 3) := by decide +kernel
theorem d_M_gcd_41 : decode b_M_gcd 41 = .ok (.aload_n 0, 1) := by decide +kernel
theorem d_M_gcd_42 : decode b_M_gcd 42 = .ok (.iload_n 1, 1) := by decide +kernel
theorem d_M_gcd_43 : decode b_M_gcd 43 = .ok (.iconst 5, 1) := by decide +kernel
theorem d_M_gcd_44 : decode b_M_gcd 44 = .ok (.iconst 1, 1) := by decide +kernel
theorem d_M_gcd_45 : decode b_M_gcd 45 = .ok (.iconst 2, 1) := by decide +kernel
theorem d_M_gcd_46 : decode b_M_gcd 46 = .ok (.invokevirtual 80, 3) := by decide +kernel
theorem d_M_gcd_49 : decode b_M_gcd 49 = .ok (.ireturn, 1) := by decide +kernel
theorem d_M_compare_0 : decode b_M_compare 0 = .ok (.aload_n 0, 1) := by decide +kernel
theorem d_M_compare_1 : decode b_M_compare 1 = .ok (.iload_n 1, 1) := by decide +kernel
theorem d_M_compare_2 : decode b_M_compare 2 = .ok (.iload_n 2, 1) := by decide +kernel
theorem d_M_compare_3 : decode b_M_compare 3 = .ok (.iload_n 2, 1) := by decide +kernel
theorem d_M_compare_4 : decode b_M_compare 4 = .ok (.invokestatic 95, 3) := by decide +kernel
theorem d_M_compare_7 : decode b_M_compare 7 = .ok (.ifCond .eq 7, 3) := by decide +kernel
theorem d_M_compare_10 : decode b_M_compare 10 = .ok (.iconst 0, 1) := by decide +kernel
theorem d_M_compare_11 : decode b_M_compare 11 = .ok (.goto 4, 3) := by decide +kernel
theorem d_M_compare_14 : decode b_M_compare 14 = .ok (.iconst 1, 1) := by decide +kernel
theorem d_M_compare_15 : decode b_M_compare 15 = .ok (.invokevirtual 73, 3) := by decide +kernel
theorem d_M_compare_18 : decode b_M_compare 18 = .ok (.ifCond .eq 5, 3) := by decide +kernel
theorem d_M_compare_21 : decode b_M_compare 21 = .ok (.iconst 0, 1) := by decide +kernel
theorem d_M_compare_22 : decode b_M_compare 22 = .ok (.ireturn, 1) := by decide +kernel
theorem d_M_compare_23 : decode b_M_compare 23 = .ok (.aload_n 0, 1) := by decide +kernel
theorem d_M_compare_24 : decode b_M_compare 24 = .ok (.iconst 0, 1) := by decide +kernel
theorem d_M_compare_25 : decode b_M_compare 25 = .ok (.iload_n 1, 1) := by decide +kernel
theorem d_M_compare_26 : decode b_M_compare 26 = .ok (.invokevirtual 84, 3) := by decide +kernel
theorem d_M_compare_29 : decode b_M_compare 29 = .ok (.aload_n 0, 1) := by decide +kernel
theorem d_M_compare_30 : decode b_M_compare 30 = .ok (.iconst 1, 1) := by decide +kernel
theorem d_M_compare_31 : decode b_M_compare 31 = .ok (.iload_n 2, 1) := by decide +kernel
theorem d_M_compare_32 : decode b_M_compare 32 = .ok (.invokevirtual 84, 3) := by decide +kernel
theorem d_M_compare_35 : decode b_M_compare 35 = .ok (.aload_n 0, 1) := by decide +kernel
theorem d_M_compare_36 : decode b_M_compare 36 = .ok (.aload_n 0, 1) := by decide +kernel
theorem d_M_compare_37 : decode b_M_compare 37 = .ok (.getfield 23, 3) := by decide +kernel
theorem d_M_compare_40 : decode b_M_compare 40 = .ok (.iload_n 1, 1) := by decide +kernel
theorem d_M_compare_41 : decode b_M_compare 41 = .ok (.iaload, 1) := by decide +kernel
theorem d_M_compare_42 : decode b_M_compare 42 = .ok (.aload_n 0, 1) := by decide +kernel
theorem d_M_compare_43 : decode b_M_compare 43 = .ok (.getfield 23, 3) := by decide +kernel
theorem d_M_compare_46 : decode b_M_compare 46 = .ok (.iload_n 2, 1) := by decide +kernel
theorem d_M_compare_47 : decode b_M_compare 47 = .ok (.iaload, 1) := by decide +kernel
theorem d_M_compare_48 : decode b_M_compare 48 = .ok (.ineg, 1) := by decide +kernel
theorem d_M_compare_49 : decode b_M_compare 49 = .ok (.invokevirtual 105, 3) := by decide +kernel
theorem d_M_compare_52 : decode b_M_compare 52 = .ok (.ireturn, 1) := by decide +kernel
theorem d_M_sign_0 : decode b_M_sign 0 = .ok (.aload_n 0, 1) := by decide +kernel
theorem d_M_sign_1 : decode b_M_sign 1 = .ok (.iload_n 1, 1) := by decide +kernel
theorem d_M_sign_2 : decode b_M_sign 2 = .ok (.invokestatic 36, 3) := by decide +kernel
theorem d_M_sign_5 : decode b_M_sign 5 = .ok (.ifCond .eq 7, 3) := by decide +kernel
theorem d_M_sign_8 : decode b_M_sign 8 = .ok (.iconst 0, 1) := by decide +kernel
theorem d_M_sign_9 : decode b_M_sign 9 = .ok (.goto 4, 3) := by decide +kernel
theorem d_M_sign_12 : decode b_M_sign 12 = .ok (.iconst 1, 1) := by decide +kernel
theorem d_M_sign_13 : decode b_M_sign 13 = .ok (.invokevirtual 73, 3) := by decide +kernel
theorem d_M_sign_16 : decode b_M_sign 16 = .ok (.ifCond .eq 7, 3) := by decide +kernel
theorem d_M_sign_19 : decode b_M_sign 19 = .ok (.iconst 0, 1) := by decide +kernel
theorem d_M_sign_20 : decode b_M_sign 20 = .ok (.goto 9, 3) := by decide +kernel
theorem d_M_sign_23 : decode b_M_sign 23 = .ok (.aload_n 0, 1) := by decide +kernel
theorem d_M_sign_24 : decode b_M_sign 24 = .ok (.getfield 23, 3) := by decide +kernel
theorem d_M_sign_27 : decode b_M_sign 27 = .ok (.iload_n 1, 1) := by decide +kernel
theorem d_M_sign_28 : decode b_M_sign 28 = .ok (.iaload, 1) := by decide +kernel
theorem d_M_sign_29 : decode b_M_sign 29 = .ok (.ireturn, 1) := by decide +kernel
theorem d_M_length_0 : decode b_M_length 0 = .ok (.aload_n 0, 1) := by decide +kernel
theorem d_M_length_1 : decode b_M_length 1 = .ok (.iload_n 1, 1) := by decide +kernel
theorem d_M_length_2 : decode b_M_length 2 = .ok (.invokestatic 36, 3) := by decide +kernel
theorem d_M_length_5 : decode b_M_length 5 = .ok (.ifCond .eq 7, 3) := by decide +kernel
theorem d_M_length_8 : decode b_M_length 8 = .ok (.iconst 0, 1) := by decide +kernel
theorem d_M_length_9 : decode b_M_length 9 = .ok (.goto 4, 3) := by decide +kernel
theorem d_M_length_12 : decode b_M_length 12 = .ok (.iconst 1, 1) := by decide +kernel
theorem d_M_length_13 : decode b_M_length 13 = .ok (.invokevirtual 73, 3) := by decide +kernel
theorem d_M_length_16 : decode b_M_length 16 = .ok (.ifCond .eq 5, 3) := by decide +kernel
theorem d_M_length_19 : decode b_M_length 19 = .ok (.iconst 0, 1) := by decide +kernel
theorem d_M_length_20 : decode b_M_length 20 = .ok (.ireturn, 1) := by decide +kernel
theorem d_M_length_21 : decode b_M_length 21 = .ok (.aload_n 0, 1) := by decide +kernel
theorem d_M_length_22 : decode b_M_length 22 = .ok (.iconst 0, 1) := by decide +kernel
theorem d_M_length_23 : decode b_M_length 23 = .ok (.iload_n 1, 1) := by decide +kernel
theorem d_M_length_24 : decode b_M_length 24 = .ok (.invokevirtual 84, 3) := by decide +kernel
theorem d_M_length_27 : decode b_M_length 27 = .ok (.aload_n 0, 1) := by decide +kernel
theorem d_M_length_28 : decode b_M_length 28 = .ok (.iconst 0, 1) := by decide +kernel
theorem d_M_length_29 : decode b_M_length 29 = .ok (.invokevirtual 70, 3) := by decide +kernel
theorem d_M_length_32 : decode b_M_length 32 = .ok (.ireturn, 1) := by decide +kernel
theorem d_M_limb_0 : decode b_M_limb 0 = .ok (.aload_n 0, 1) := by decide +kernel
theorem d_M_limb_1 : decode b_M_limb 1 = .ok (.iload_n 1, 1) := by decide +kernel
theorem d_M_limb_2 : decode b_M_limb 2 = .ok (.invokestatic 36, 3) := by decide +kernel
theorem d_M_limb_5 : decode b_M_limb 5 = .ok (.ifCond .eq 7, 3) := by decide +kernel
theorem d_M_limb_8 : decode b_M_limb 8 = .ok (.iload_n 2, 1) := by decide +kernel
theorem d_M_limb_9 : decode b_M_limb 9 = .ok (.ifCond .ge 7, 3) := by decide +kernel
theorem d_M_limb_12 : decode b_M_limb 12 = .ok (.iconst 1, 1) := by decide +kernel
theorem d_M_limb_13 : decode b_M_limb 13 = .ok (.goto 4, 3) := by decide +kernel
theorem d_M_limb_16 : decode b_M_limb 16 = .ok (.iconst 0, 1) := by decide +kernel
theorem d_M_limb_17 : decode b_M_limb 17 = .ok (.invokevirtual 73, 3) := by decide +kernel
theorem d_M_limb_20 : decode b_M_limb 20 = .ok (.ifCond .eq 5, 3) := by decide +kernel
theorem d_M_limb_23 : decode b_M_limb 23 = .ok (.iconst 0, 1) := by decide +kernel
theorem d_M_limb_24 : decode b_M_limb 24 = .ok (.ireturn, 1) := by decide +kernel
theorem d_M_limb_25 : decode b_M_limb 25 = .ok (.aload_n 0, 1) := by decide +kernel
theorem d_M_limb_26 : decode b_M_limb 26 = .ok (.iconst 0, 1) := by decide +kernel
theorem d_M_limb_27 : decode b_M_limb 27 = .ok (.iload_n 1, 1) := by decide +kernel
theorem d_M_limb_28 : decode b_M_limb 28 = .ok (.invokevirtual 84, 3) := by decide +kernel
theorem d_M_limb_31 : decode b_M_limb 31 = .ok (.aload_n 0, 1) := by decide +kernel
theorem d_M_limb_32 : decode b_M_limb 32 = .ok (.iconst 0, 1) := by decide +kernel
theorem d_M_limb_33 : decode b_M_limb 33 = .ok (.invokevirtual 66, 3) := by decide +kernel
theorem d_M_limb_36 : decode b_M_limb 36 = .ok (.istore_n 3, 1) := by decide +kernel
theorem d_M_limb_37 : decode b_M_limb 37 = .ok (.iload_n 2, 1) := by decide +kernel
theorem d_M_limb_38 : decode b_M_limb 38 = .ok (.iload_n 3, 1) := by decide +kernel
theorem d_M_limb_39 : decode b_M_limb 39 = .ok (.if_icmp .le 5, 3) := by decide +kernel
theorem d_M_limb_42 : decode b_M_limb 42 = .ok (.iconst 0, 1) := by decide +kernel
theorem d_M_limb_43 : decode b_M_limb 43 = .ok (.ireturn, 1) := by decide +kernel
theorem d_M_limb_44 : decode b_M_limb 44 = .ok (.iconst 2, 1) := by decide +kernel
theorem d_M_limb_45 : decode b_M_limb 45 = .ok (.iload_n 2, 1) := by decide +kernel
theorem d_M_limb_46 : decode b_M_limb 46 = .ok (.imul, 1) := by decide +kernel
theorem d_M_limb_47 : decode b_M_limb 47 = .ok (.iload_n 3, 1) := by decide +kernel
theorem d_M_limb_48 : decode b_M_limb 48 = .ok (.if_icmp .ge 14, 3) := by decide +kernel
theorem d_M_limb_51 : decode b_M_limb 51 = .ok (.aload_n 0, 1) := by decide +kernel
theorem d_M_limb_52 : decode b_M_limb 52 = .ok (.getfield 26, 3) := by decide +kernel
theorem d_M_limb_55 : decode b_M_limb 55 = .ok (.iconst 2, 1) := by decide +kernel
theorem d_M_limb_56 : decode b_M_limb 56 = .ok (.iload_n 2, 1) := by decide +kernel
theorem d_M_limb_57 : decode b_M_limb 57 = .ok (.imul, 1) := by decide +kernel
theorem d_M_limb_58 : decode b_M_limb 58 = .ok (.iaload, 1) := by decide +kernel
theorem d_M_limb_59 : decode b_M_limb 59 = .ok (.goto 4, 3) := by decide +kernel
theorem d_M_limb_62 : decode b_M_limb 62 = .ok (.iconst 0, 1) := by decide +kernel
theorem d_M_limb_63 : decode b_M_limb 63 = .ok (.istore 4, 2) := by decide +kernel
theorem d_M_limb_65 : decode b_M_limb 65 = .ok (.iconst 2, 1) := by decide +kernel
theorem d_M_limb_66 : decode b_M_limb 66 = .ok (.iload_n 2, 1) := by decide +kernel
theorem d_M_limb_67 : decode b_M_limb 67 = .ok (.imul, 1) := by decide +kernel
theorem d_M_limb_68 : decode b_M_limb 68 = .ok (.iconst 1, 1) := by decide +kernel
theorem d_M_limb_69 : decode b_M_limb 69 = .ok (.iadd, 1) := by decide +kernel
theorem d_M_limb_70 : decode b_M_limb 70 = .ok (.iload_n 3, 1) := by decide +kernel
theorem d_M_limb_71 : decode b_M_limb 71 = .ok (.if_icmp .ge 16, 3) := by decide +kernel
theorem d_M_limb_74 : decode b_M_limb 74 = .ok (.aload_n 0, 1) := by decide +kernel
theorem d_M_limb_75 : decode b_M_limb 75 = .ok (.getfield 26, 3) := by decide +kernel
theorem d_M_limb_78 : decode b_M_limb 78 = .ok (.iconst 2, 1) := by decide +kernel
theorem d_M_limb_79 : decode b_M_limb 79 = .ok (.iload_n 2, 1) := by decide +kernel
theorem d_M_limb_80 : decode b_M_limb 80 = .ok (.imul, 1) := by decide +kernel
theorem d_M_limb_81 : decode b_M_limb 81 = .ok (.iconst 1, 1) := by decide +kernel
theorem d_M_limb_82 : decode b_M_limb 82 = .ok (.iadd, 1) := by decide +kernel
theorem d_M_limb_83 : decode b_M_limb 83 = .ok (.iaload, 1) := by decide +kernel
theorem d_M_limb_84 : decode b_M_limb 84 = .ok (.goto 4, 3) := by decide +kernel
theorem d_M_limb_87 : decode b_M_limb 87 = .ok (.iconst 0, 1) := by decide +kernel
theorem d_M_limb_88 : decode b_M_limb 88 = .ok (.istore 5, 2) := by decide +kernel
theorem d_M_limb_90 : decode b_M_limb 90 = .ok (.iload 5, 2) := by decide +kernel
theorem d_M_limb_92 : decode b_M_limb 92 = .ok (.bipush 16, 2) := by decide +kernel
theorem d_M_limb_94 : decode b_M_limb 94 = .ok (.ishl, 1) := by decide +kernel
theorem d_M_limb_95 : decode b_M_limb 95 = .ok (.iload 4, 2) := by decide +kernel
theorem d_M_limb_97 : decode b_M_limb 97 = .ok (.ior, 1) := by decide +kernel
theorem d_M_limb_98 : decode b_M_limb 98 = .ok (.ireturn, 1) := by decide +kernel
theorem d_M_rest_0 : decode b_M_rest 0 = .ok (.aload_n 0, 1) := by decide +kernel
theorem d_M_rest_1 : decode b_M_rest 1 = .ok (.iload_n 1, 1) := by decide +kernel
theorem d_M_rest_2 : decode b_M_rest 2 = .ok (.invokestatic 36, 3) := by decide +kernel
theorem d_M_rest_5 : decode b_M_rest 5 = .ok (.ifCond .ne 7, 3) := by decide +kernel
theorem d_M_rest_8 : decode b_M_rest 8 = .ok (.iconst 1, 1) := by decide +kernel
theorem d_M_rest_9 : decode b_M_rest 9 = .ok (.goto 13, 3) := by decide +kernel
theorem d_M_rest_12 : decode b_M_rest 12 = .ok (.iload_n 2, 1) := by decide +kernel
theorem d_M_rest_13 : decode b_M_rest 13 = .ok (.iconst 1, 1) := by decide +kernel
theorem d_M_rest_14 : decode b_M_rest 14 = .ok (.if_icmp .ge 7, 3) := by decide +kernel
theorem d_M_rest_17 : decode b_M_rest 17 = .ok (.iconst 2, 1) := by decide +kernel
theorem d_M_rest_18 : decode b_M_rest 18 = .ok (.goto 4, 3) := by decide +kernel
theorem d_M_rest_21 : decode b_M_rest 21 = .ok (.iconst 0, 1) := by decide +kernel
theorem d_M_rest_22 : decode b_M_rest 22 = .ok (.invokevirtual 73, 3) := by decide +kernel
theorem d_M_rest_25 : decode b_M_rest 25 = .ok (.ifCond .eq 5, 3) := by decide +kernel
theorem d_M_rest_28 : decode b_M_rest 28 = .ok (.iconst 0, 1) := by decide +kernel
theorem d_M_rest_29 : decode b_M_rest 29 = .ok (.ireturn, 1) := by decide +kernel
theorem d_M_rest_30 : decode b_M_rest 30 = .ok (.lconst 0, 1) := by decide +kernel
theorem d_M_rest_31 : decode b_M_rest 31 = .ok (.lstore_n 3, 1) := by decide +kernel
theorem d_M_rest_32 : decode b_M_rest 32 = .ok (.aload_n 0, 1) := by decide +kernel
theorem d_M_rest_33 : decode b_M_rest 33 = .ok (.getfield 20, 3) := by decide +kernel
theorem d_M_rest_36 : decode b_M_rest 36 = .ok (.iload_n 1, 1) := by decide +kernel
theorem d_M_rest_37 : decode b_M_rest 37 = .ok (.iaload, 1) := by decide +kernel
theorem d_M_rest_38 : decode b_M_rest 38 = .ok (.iconst 1, 1) := by decide +kernel
theorem d_M_rest_39 : decode b_M_rest 39 = .ok (.isub, 1) := by decide +kernel
theorem d_M_rest_40 : decode b_M_rest 40 = .ok (.istore 5, 2) := by decide +kernel
theorem d_M_rest_42 : decode b_M_rest 42 = .ok (.iload 5, 2) := by decide +kernel
theorem d_M_rest_44 : decode b_M_rest 44 = .ok (.ifCond .lt 33, 3) := by decide +kernel
theorem d_M_rest_47 : decode b_M_rest 47 = .ok (.lload_n 3, 1) := by decide +kernel
theorem d_M_rest_48 : decode b_M_rest 48 = .ok (.ldc2_w 40, 3) := by decide +kernel
theorem d_M_rest_51 : decode b_M_rest 51 = .ok (.lmul, 1) := by decide +kernel
theorem d_M_rest_52 : decode b_M_rest 52 = .ok (.aload_n 0, 1) := by decide +kernel
theorem d_M_rest_53 : decode b_M_rest 53 = .ok (.getfield 17, 3) := by decide +kernel
theorem d_M_rest_56 : decode b_M_rest 56 = .ok (.sipush 1520, 3) := by decide +kernel
theorem d_M_rest_59 : decode b_M_rest 59 = .ok (.iload_n 1, 1) := by decide +kernel
theorem d_M_rest_60 : decode b_M_rest 60 = .ok (.imul, 1) := by decide +kernel
theorem d_M_rest_61 : decode b_M_rest 61 = .ok (.iload 5, 2) := by decide +kernel
theorem d_M_rest_63 : decode b_M_rest 63 = .ok (.iadd, 1) := by decide +kernel
theorem d_M_rest_64 : decode b_M_rest 64 = .ok (.iaload, 1) := by decide +kernel
theorem d_M_rest_65 : decode b_M_rest 65 = .ok (.i2l, 1) := by decide +kernel
theorem d_M_rest_66 : decode b_M_rest 66 = .ok (.ladd, 1) := by decide +kernel
theorem d_M_rest_67 : decode b_M_rest 67 = .ok (.iload_n 2, 1) := by decide +kernel
theorem d_M_rest_68 : decode b_M_rest 68 = .ok (.i2l, 1) := by decide +kernel
theorem d_M_rest_69 : decode b_M_rest 69 = .ok (.lrem, 1) := by decide +kernel
theorem d_M_rest_70 : decode b_M_rest 70 = .ok (.lstore_n 3, 1) := by decide +kernel
theorem d_M_rest_71 : decode b_M_rest 71 = .ok (.iinc 5 (-1), 3) := by decide +kernel
theorem d_M_rest_74 : decode b_M_rest 74 = .ok (.goto (-32), 3) := by decide +kernel
theorem d_M_rest_77 : decode b_M_rest 77 = .ok (.aload_n 0, 1) := by decide +kernel
theorem d_M_rest_78 : decode b_M_rest 78 = .ok (.getfield 23, 3) := by decide +kernel
theorem d_M_rest_81 : decode b_M_rest 81 = .ok (.iload_n 1, 1) := by decide +kernel
theorem d_M_rest_82 : decode b_M_rest 82 = .ok (.iaload, 1) := by decide +kernel
theorem d_M_rest_83 : decode b_M_rest 83 = .ok (.ifCond .ge 16, 3) := by decide +kernel
theorem d_M_rest_86 : decode b_M_rest 86 = .ok (.lload_n 3, 1) := by decide +kernel
theorem d_M_rest_87 : decode b_M_rest 87 = .ok (.lconst 0, 1) := by decide +kernel
theorem d_M_rest_88 : decode b_M_rest 88 = .ok (.lcmp, 1) := by decide +kernel
theorem d_M_rest_89 : decode b_M_rest 89 = .ok (.ifCond .le 10, 3) := by decide +kernel
theorem d_M_rest_92 : decode b_M_rest 92 = .ok (.iload_n 2, 1) := by decide +kernel
theorem d_M_rest_93 : decode b_M_rest 93 = .ok (.i2l, 1) := by decide +kernel
theorem d_M_rest_94 : decode b_M_rest 94 = .ok (.lload_n 3, 1) := by decide +kernel
theorem d_M_rest_95 : decode b_M_rest 95 = .ok (.lsub, 1) := by decide +kernel
theorem d_M_rest_96 : decode b_M_rest 96 = .ok (.goto 4, 3) := by decide +kernel
theorem d_M_rest_99 : decode b_M_rest 99 = .ok (.lload_n 3, 1) := by decide +kernel
theorem d_M_rest_100 : decode b_M_rest 100 = .ok (.l2i, 1) := by decide +kernel
theorem d_M_rest_101 : decode b_M_rest 101 = .ok (.ireturn, 1) := by decide +kernel
theorem d_M_print_0 : decode b_M_print 0 = .ok (.aload_n 0, 1) := by decide +kernel
theorem d_M_print_1 : decode b_M_print 1 = .ok (.iload_n 1, 1) := by decide +kernel
theorem d_M_print_2 : decode b_M_print 2 = .ok (.invokestatic 36, 3) := by decide +kernel
theorem d_M_print_5 : decode b_M_print 5 = .ok (.ifCond .eq 7, 3) := by decide +kernel
theorem d_M_print_8 : decode b_M_print 8 = .ok (.iconst 0, 1) := by decide +kernel
theorem d_M_print_9 : decode b_M_print 9 = .ok (.goto 4, 3) := by decide +kernel
theorem d_M_print_12 : decode b_M_print 12 = .ok (.iconst 1, 1) := by decide +kernel
theorem d_M_print_13 : decode b_M_print 13 = .ok (.invokevirtual 73, 3) := by decide +kernel
theorem d_M_print_16 : decode b_M_print 16 = .ok (.ifCond .eq 5, 3) := by decide +kernel
theorem d_M_print_19 : decode b_M_print 19 = .ok (.iconst 0, 1) := by decide +kernel
theorem d_M_print_20 : decode b_M_print 20 = .ok (.ireturn, 1) := by decide +kernel
theorem d_M_print_21 : decode b_M_print 21 = .ok (.aload_n 0, 1) := by decide +kernel
theorem d_M_print_22 : decode b_M_print 22 = .ok (.iconst 0, 1) := by decide +kernel
theorem d_M_print_23 : decode b_M_print 23 = .ok (.putfield 118, 3) := by decide +kernel
theorem d_M_print_26 : decode b_M_print 26 = .ok (.aload_n 0, 1) := by decide +kernel
theorem d_M_print_27 : decode b_M_print 27 = .ok (.getfield 23, 3) := by decide +kernel
theorem d_M_print_30 : decode b_M_print 30 = .ok (.iload_n 1, 1) := by decide +kernel
theorem d_M_print_31 : decode b_M_print 31 = .ok (.iaload, 1) := by decide +kernel
theorem d_M_print_32 : decode b_M_print 32 = .ok (.ifCond .ge 16, 3) := by decide +kernel
theorem d_M_print_35 : decode b_M_print 35 = .ok (.aload_n 0, 1) := by decide +kernel
theorem d_M_print_36 : decode b_M_print 36 = .ok (.getfield 29, 3) := by decide +kernel
theorem d_M_print_39 : decode b_M_print 39 = .ok (.iconst 0, 1) := by decide +kernel
theorem d_M_print_40 : decode b_M_print 40 = .ok (.bipush 45, 2) := by decide +kernel
theorem d_M_print_42 : decode b_M_print 42 = .ok (.iastore, 1) := by decide +kernel
theorem d_M_print_43 : decode b_M_print 43 = .ok (.aload_n 0, 1) := by decide +kernel
theorem d_M_print_44 : decode b_M_print 44 = .ok (.iconst 1, 1) := by decide +kernel
theorem d_M_print_45 : decode b_M_print 45 = .ok (.putfield 118, 3) := by decide +kernel
theorem d_M_print_48 : decode b_M_print 48 = .ok (.aload_n 0, 1) := by decide +kernel
theorem d_M_print_49 : decode b_M_print 49 = .ok (.getfield 20, 3) := by decide +kernel
theorem d_M_print_52 : decode b_M_print 52 = .ok (.iload_n 1, 1) := by decide +kernel
theorem d_M_print_53 : decode b_M_print 53 = .ok (.iaload, 1) := by decide +kernel
theorem d_M_print_54 : decode b_M_print 54 = .ok (.ifCond .ne 16, 3) := by decide +kernel
theorem d_M_print_57 : decode b_M_print 57 = .ok (.aload_n 0, 1) := by decide +kernel
theorem d_M_print_58 : decode b_M_print 58 = .ok (.getfield 29, 3) := by decide +kernel
theorem d_M_print_61 : decode b_M_print 61 = .ok (.iconst 0, 1) := by decide +kernel
theorem d_M_print_62 : decode b_M_print 62 = .ok (.bipush 48, 2) := by decide +kernel
theorem d_M_print_64 : decode b_M_print 64 = .ok (.iastore, 1) := by decide +kernel
theorem d_M_print_65 : decode b_M_print 65 = .ok (.aload_n 0, 1) := by decide +kernel
theorem d_M_print_66 : decode b_M_print 66 = .ok (.iconst 1, 1) := by decide +kernel
theorem d_M_print_67 : decode b_M_print 67 = .ok (.putfield 118, 3) := by decide +kernel
theorem d_M_print_70 : decode b_M_print 70 = .ok (.aload_n 0, 1) := by decide +kernel
theorem d_M_print_71 : decode b_M_print 71 = .ok (.getfield 20, 3) := by decide +kernel
theorem d_M_print_74 : decode b_M_print 74 = .ok (.iload_n 1, 1) := by decide +kernel
theorem d_M_print_75 : decode b_M_print 75 = .ok (.iaload, 1) := by decide +kernel
theorem d_M_print_76 : decode b_M_print 76 = .ok (.iconst 1, 1) := by decide +kernel
theorem d_M_print_77 : decode b_M_print 77 = .ok (.isub, 1) := by decide +kernel
theorem d_M_print_78 : decode b_M_print 78 = .ok (.istore_n 2, 1) := by decide +kernel
theorem d_M_print_79 : decode b_M_print 79 = .ok (.iload_n 2, 1) := by decide +kernel
theorem d_M_print_80 : decode b_M_print 80 = .ok (.ifCond .lt 89, 3) := by decide +kernel
theorem d_M_print_83 : decode b_M_print 83 = .ok (.aload_n 0, 1) := by decide +kernel
theorem d_M_print_84 : decode b_M_print 84 = .ok (.getfield 17, 3) := by decide +kernel
theorem d_M_print_87 : decode b_M_print 87 = .ok (.sipush 1520, 3) := by decide +kernel
theorem d_M_print_90 : decode b_M_print 90 = .ok (.iload_n 1, 1) := by decide +kernel
theorem d_M_print_91 : decode b_M_print 91 = .ok (.imul, 1) := by decide +kernel
theorem d_M_print_92 : decode b_M_print 92 = .ok (.iload_n 2, 1) := by decide +kernel
theorem d_M_print_93 : decode b_M_print 93 = .ok (.iadd, 1) := by decide +kernel
theorem d_M_print_94 : decode b_M_print 94 = .ok (.iaload, 1) := by decide +kernel
theorem d_M_print_95 : decode b_M_print 95 = .ok (.istore_n 3, 1) := by decide +kernel
theorem d_M_print_96 : decode b_M_print 96 = .ok (.sipush 1000, 3) := by decide +kernel
theorem d_M_print_99 : decode b_M_print 99 = .ok (.istore 4, 2) := by decide +kernel
theorem d_M_print_101 : decode b_M_print 101 = .ok (.iload 4, 2) := by decide +kernel
theorem d_M_print_103 : decode b_M_print 103 = .ok (.ifCond .le 60, 3) := by decide +kernel
theorem d_M_print_106 : decode b_M_print 106 = .ok (.iload_n 2, 1) := by decide +kernel
theorem d_M_print_107 : decode b_M_print 107 = .ok (.aload_n 0, 1) := by decide +kernel
theorem d_M_print_108 : decode b_M_print 108 = .ok (.getfield 20, 3) := by decide +kernel
theorem d_M_print_111 : decode b_M_print 111 = .ok (.iload_n 1, 1) := by decide +kernel
theorem d_M_print_112 : decode b_M_print 112 = .ok (.iaload, 1) := by decide +kernel
theorem d_M_print_113 : decode b_M_print 113 = .ok (.iconst 1, 1) := by decide +kernel
theorem d_M_print_114 : decode b_M_print 114 = .ok (.isub, 1) := by decide +kernel
theorem d_M_print_115 : decode b_M_print 115 = .ok (.if_icmp .lt 9, 3) := by decide +kernel
theorem d_M_print_118 : decode b_M_print 118 = .ok (.iload_n 3, 1) := by decide +kernel
theorem d_M_print_119 : decode b_M_print 119 = .ok (.iload 4, 2) := by decide +kernel
theorem d_M_print_121 : decode b_M_print 121 = .ok (.if_icmp .lt 32, 3) := by decide +kernel
theorem d_M_print_124 : decode b_M_print 124 = .ok (.aload_n 0, 1) := by decide +kernel
theorem d_M_print_125 : decode b_M_print 125 = .ok (.getfield 29, 3) := by decide +kernel
theorem d_M_print_128 : decode b_M_print 128 = .ok (.aload_n 0, 1) := by decide +kernel
theorem d_M_print_129 : decode b_M_print 129 = .ok (.getfield 118, 3) := by decide +kernel
theorem d_M_print_132 : decode b_M_print 132 = .ok (.bipush 48, 2) := by decide +kernel
theorem d_M_print_134 : decode b_M_print 134 = .ok (.iload_n 3, 1) := by decide +kernel
theorem d_M_print_135 : decode b_M_print 135 = .ok (.iload 4, 2) := by decide +kernel
theorem d_M_print_137 : decode b_M_print 137 = .ok (.idiv, 1) := by decide +kernel
theorem d_M_print_138 : decode b_M_print 138 = .ok (.bipush 10, 2) := by decide +kernel
theorem d_M_print_140 : decode b_M_print 140 = .ok (.irem, 1) := by decide +kernel
theorem d_M_print_141 : decode b_M_print 141 = .ok (.iadd, 1) := by decide +kernel
theorem d_M_print_142 : decode b_M_print 142 = .ok (.iastore, 1) := by decide +kernel
theorem d_M_print_143 : decode b_M_print 143 = .ok (.aload_n 0, 1) := by decide +kernel
theorem d_M_print_144 : decode b_M_print 144 = .ok (.dup, 1) := by decide +kernel
theorem d_M_print_145 : decode b_M_print 145 = .ok (.getfield 118, 3) := by decide +kernel
theorem d_M_print_148 : decode b_M_print 148 = .ok (.iconst 1, 1) := by decide +kernel
theorem d_M_print_149 : decode b_M_print 149 = .ok (.iadd, 1) := by decide +kernel
theorem d_M_print_150 : decode b_M_print 150 = .ok (.putfield 118, 3) := by decide +kernel
