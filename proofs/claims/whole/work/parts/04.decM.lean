theorem dM_isRegister_0 : decode prog_3_method_3_code 0 = .ok (.iload_n 0, 1) := by decide +kernel
theorem dM_isRegister_1 : decode prog_3_method_3_code 1 = .ok (.ifCond .lt 13, 3) := by decide +kernel
theorem dM_isRegister_4 : decode prog_3_method_3_code 4 = .ok (.iload_n 0, 1) := by decide +kernel
theorem dM_isRegister_5 : decode prog_3_method_3_code 5 = .ok (.bipush 16, 2) := by decide +kernel
theorem dM_isRegister_7 : decode prog_3_method_3_code 7 = .ok (.if_icmp .ge 7, 3) := by decide +kernel
theorem dM_isRegister_10 : decode prog_3_method_3_code 10 = .ok (.iconst 1, 1) := by decide +kernel
theorem dM_isRegister_11 : decode prog_3_method_3_code 11 = .ok (.goto 4, 3) := by decide +kernel
theorem dM_isRegister_14 : decode prog_3_method_3_code 14 = .ok (.iconst 0, 1) := by decide +kernel
theorem dM_isRegister_15 : decode prog_3_method_3_code 15 = .ok (.ireturn, 1) := by decide +kernel
theorem dM_is_0 : decode prog_3_method_4_code 0 = .ok (.iload_n 0, 1) := by decide +kernel
theorem dM_is_1 : decode prog_3_method_4_code 1 = .ok (.ifCond .lt 33, 3) := by decide +kernel
theorem dM_is_4 : decode prog_3_method_4_code 4 = .ok (.iload_n 0, 1) := by decide +kernel
theorem dM_is_5 : decode prog_3_method_4_code 5 = .ok (.bipush 48, 2) := by decide +kernel
theorem dM_is_7 : decode prog_3_method_4_code 7 = .ok (.if_icmp .ge 27, 3) := by decide +kernel
theorem dM_is_10 : decode prog_3_method_4_code 10 = .ok (.iload_n 0, 1) := by decide +kernel
theorem dM_is_11 : decode prog_3_method_4_code 11 = .ok (.bipush 8, 2) := by decide +kernel
theorem dM_is_13 : decode prog_3_method_4_code 13 = .ok (.irem, 1) := by decide +kernel
theorem dM_is_14 : decode prog_3_method_4_code 14 = .ok (.bipush 6, 2) := by decide +kernel
theorem dM_is_16 : decode prog_3_method_4_code 16 = .ok (.if_icmp .ge 18, 3) := by decide +kernel
theorem dM_is_19 : decode prog_3_method_4_code 19 = .ok (.iload_n 0, 1) := by decide +kernel
theorem dM_is_20 : decode prog_3_method_4_code 20 = .ok (.bipush 8, 2) := by decide +kernel
theorem dM_is_22 : decode prog_3_method_4_code 22 = .ok (.idiv, 1) := by decide +kernel
theorem dM_is_23 : decode prog_3_method_4_code 23 = .ok (.iload_n 0, 1) := by decide +kernel
theorem dM_is_24 : decode prog_3_method_4_code 24 = .ok (.bipush 8, 2) := by decide +kernel
theorem dM_is_26 : decode prog_3_method_4_code 26 = .ok (.irem, 1) := by decide +kernel
theorem dM_is_27 : decode prog_3_method_4_code 27 = .ok (.if_icmp .gt 7, 3) := by decide +kernel
theorem dM_is_30 : decode prog_3_method_4_code 30 = .ok (.iconst 1, 1) := by decide +kernel
theorem dM_is_31 : decode prog_3_method_4_code 31 = .ok (.goto 4, 3) := by decide +kernel
theorem dM_is_34 : decode prog_3_method_4_code 34 = .ok (.iconst 0, 1) := by decide +kernel
theorem dM_is_35 : decode prog_3_method_4_code 35 = .ok (.ireturn, 1) := by decide +kernel
theorem dM_first_0 : decode prog_3_method_5_code 0 = .ok (.iload_n 0, 1) := by decide +kernel
theorem dM_first_1 : decode prog_3_method_5_code 1 = .ok (.bipush 8, 2) := by decide +kernel
theorem dM_first_3 : decode prog_3_method_5_code 3 = .ok (.if_icmp .ge 7, 3) := by decide +kernel
theorem dM_first_6 : decode prog_3_method_5_code 6 = .ok (.iconst 1, 1) := by decide +kernel
theorem dM_first_7 : decode prog_3_method_5_code 7 = .ok (.goto 7, 3) := by decide +kernel
theorem dM_first_10 : decode prog_3_method_5_code 10 = .ok (.iload_n 0, 1) := by decide +kernel
theorem dM_first_11 : decode prog_3_method_5_code 11 = .ok (.bipush 8, 2) := by decide +kernel
theorem dM_first_13 : decode prog_3_method_5_code 13 = .ok (.idiv, 1) := by decide +kernel
theorem dM_first_14 : decode prog_3_method_5_code 14 = .ok (.ireturn, 1) := by decide +kernel
theorem dM_may_0 : decode prog_3_method_10_code 0 = .ok (.iload_n 1, 1) := by decide +kernel
theorem dM_may_1 : decode prog_3_method_10_code 1 = .ok (.invokestatic 24, 3) := by decide +kernel
theorem dM_may_4 : decode prog_3_method_10_code 4 = .ok (.ifCond .eq 21, 3) := by decide +kernel
theorem dM_may_7 : decode prog_3_method_10_code 7 = .ok (.iload_n 2, 1) := by decide +kernel
theorem dM_may_8 : decode prog_3_method_10_code 8 = .ok (.invokestatic 24, 3) := by decide +kernel
theorem dM_may_11 : decode prog_3_method_10_code 11 = .ok (.ifCond .eq 14, 3) := by decide +kernel
theorem dM_may_14 : decode prog_3_method_10_code 14 = .ok (.iload_n 3, 1) := by decide +kernel
theorem dM_may_15 : decode prog_3_method_10_code 15 = .ok (.invokestatic 35, 3) := by decide +kernel
theorem dM_may_18 : decode prog_3_method_10_code 18 = .ok (.ifCond .eq 7, 3) := by decide +kernel
theorem dM_may_21 : decode prog_3_method_10_code 21 = .ok (.iconst 1, 1) := by decide +kernel
theorem dM_may_22 : decode prog_3_method_10_code 22 = .ok (.goto 4, 3) := by decide +kernel
theorem dM_may_25 : decode prog_3_method_10_code 25 = .ok (.iconst 0, 1) := by decide +kernel
theorem dM_may_26 : decode prog_3_method_10_code 26 = .ok (.ireturn, 1) := by decide +kernel
theorem dM_isField_0 : decode prog_3_method_15_code 0 = .ok (.iload_n 1, 1) := by decide +kernel
theorem dM_isField_1 : decode prog_3_method_15_code 1 = .ok (.invokestatic 35, 3) := by decide +kernel
theorem dM_isField_4 : decode prog_3_method_15_code 4 = .ok (.ireturn, 1) := by decide +kernel
theorem dM_number_0 : decode prog_3_method_7_code 0 = .ok (.iconst 0, 1) := by decide +kernel
theorem dM_number_1 : decode prog_3_method_7_code 1 = .ok (.istore 4, 2) := by decide +kernel
theorem dM_number_3 : decode prog_3_method_7_code 3 = .ok (.iload_n 2, 1) := by decide +kernel
theorem dM_number_4 : decode prog_3_method_7_code 4 = .ok (.istore 5, 2) := by decide +kernel
theorem dM_number_6 : decode prog_3_method_7_code 6 = .ok (.iload 5, 2) := by decide +kernel
theorem dM_number_8 : decode prog_3_method_7_code 8 = .ok (.iload_n 3, 1) := by decide +kernel
theorem dM_number_9 : decode prog_3_method_7_code 9 = .ok (.if_icmp .gt 29, 3) := by decide +kernel
theorem dM_number_12 : decode prog_3_method_7_code 12 = .ok (.bipush 64, 2) := by decide +kernel
theorem dM_number_14 : decode prog_3_method_7_code 14 = .ok (.iload 4, 2) := by decide +kernel
theorem dM_number_16 : decode prog_3_method_7_code 16 = .ok (.imul, 1) := by decide +kernel
theorem dM_number_17 : decode prog_3_method_7_code 17 = .ok (.aload_n 0, 1) := by decide +kernel
theorem dM_number_18 : decode prog_3_method_7_code 18 = .ok (.getfield 13, 3) := by decide +kernel
theorem dM_number_21 : decode prog_3_method_7_code 21 = .ok (.bipush 6, 2) := by decide +kernel
theorem dM_number_23 : decode prog_3_method_7_code 23 = .ok (.iload_n 1, 1) := by decide +kernel
theorem dM_number_24 : decode prog_3_method_7_code 24 = .ok (.imul, 1) := by decide +kernel
theorem dM_number_25 : decode prog_3_method_7_code 25 = .ok (.iload 5, 2) := by decide +kernel
theorem dM_number_27 : decode prog_3_method_7_code 27 = .ok (.iadd, 1) := by decide +kernel
theorem dM_number_28 : decode prog_3_method_7_code 28 = .ok (.iaload, 1) := by decide +kernel
theorem dM_number_29 : decode prog_3_method_7_code 29 = .ok (.iadd, 1) := by decide +kernel
theorem dM_number_30 : decode prog_3_method_7_code 30 = .ok (.istore 4, 2) := by decide +kernel
theorem dM_number_32 : decode prog_3_method_7_code 32 = .ok (.iinc 5 1, 3) := by decide +kernel
theorem dM_number_35 : decode prog_3_method_7_code 35 = .ok (.goto (-29), 3) := by decide +kernel
theorem dM_number_38 : decode prog_3_method_7_code 38 = .ok (.iload 4, 2) := by decide +kernel
theorem dM_number_40 : decode prog_3_method_7_code 40 = .ok (.ireturn, 1) := by decide +kernel
theorem dM_value_0 : decode prog_3_method_8_code 0 = .ok (.iload_n 1, 1) := by decide +kernel
theorem dM_value_1 : decode prog_3_method_8_code 1 = .ok (.invokestatic 24, 3) := by decide +kernel
theorem dM_value_4 : decode prog_3_method_8_code 4 = .ok (.ifCond .ne 6, 3) := by decide +kernel
theorem dM_value_7 : decode prog_3_method_8_code 7 = .ok (.ldc 29, 2) := by decide +kernel
theorem dM_value_9 : decode prog_3_method_8_code 9 = .ok (.ireturn, 1) := by decide +kernel
theorem dM_value_10 : decode prog_3_method_8_code 10 = .ok (.aload_n 0, 1) := by decide +kernel
theorem dM_value_11 : decode prog_3_method_8_code 11 = .ok (.iload_n 1, 1) := by decide +kernel
theorem dM_value_12 : decode prog_3_method_8_code 12 = .ok (.iconst 1, 1) := by decide +kernel
theorem dM_value_13 : decode prog_3_method_8_code 13 = .ok (.iconst 5, 1) := by decide +kernel
theorem dM_value_14 : decode prog_3_method_8_code 14 = .ok (.invokevirtual 30, 3) := by decide +kernel
theorem dM_value_17 : decode prog_3_method_8_code 17 = .ok (.istore_n 2, 1) := by decide +kernel
theorem dM_value_18 : decode prog_3_method_8_code 18 = .ok (.aload_n 0, 1) := by decide +kernel
theorem dM_value_19 : decode prog_3_method_8_code 19 = .ok (.getfield 7, 3) := by decide +kernel
theorem dM_value_22 : decode prog_3_method_8_code 22 = .ok (.iload_n 1, 1) := by decide +kernel
theorem dM_value_23 : decode prog_3_method_8_code 23 = .ok (.baload, 1) := by decide +kernel
theorem dM_value_24 : decode prog_3_method_8_code 24 = .ok (.ifCond .ne 7, 3) := by decide +kernel
theorem dM_value_27 : decode prog_3_method_8_code 27 = .ok (.iload_n 2, 1) := by decide +kernel
theorem dM_value_28 : decode prog_3_method_8_code 28 = .ok (.goto 14, 3) := by decide +kernel
theorem dM_value_31 : decode prog_3_method_8_code 31 = .ok (.iload_n 2, 1) := by decide +kernel
theorem dM_value_32 : decode prog_3_method_8_code 32 = .ok (.ifCond .ne 8, 3) := by decide +kernel
theorem dM_value_35 : decode prog_3_method_8_code 35 = .ok (.ldc 34, 2) := by decide +kernel
theorem dM_value_37 : decode prog_3_method_8_code 37 = .ok (.goto 5, 3) := by decide +kernel
theorem dM_value_40 : decode prog_3_method_8_code 40 = .ok (.iload_n 2, 1) := by decide +kernel
theorem dM_value_41 : decode prog_3_method_8_code 41 = .ok (.ineg, 1) := by decide +kernel
theorem dM_value_42 : decode prog_3_method_8_code 42 = .ok (.ireturn, 1) := by decide +kernel
theorem dM_byteOf_0 : decode prog_3_method_9_code 0 = .ok (.iload_n 1, 1) := by decide +kernel
theorem dM_byteOf_1 : decode prog_3_method_9_code 1 = .ok (.invokestatic 24, 3) := by decide +kernel
theorem dM_byteOf_4 : decode prog_3_method_9_code 4 = .ok (.ifCond .eq 12, 3) := by decide +kernel
theorem dM_byteOf_7 : decode prog_3_method_9_code 7 = .ok (.iload_n 2, 1) := by decide +kernel
theorem dM_byteOf_8 : decode prog_3_method_9_code 8 = .ok (.ifCond .lt 8, 3) := by decide +kernel
theorem dM_byteOf_11 : decode prog_3_method_9_code 11 = .ok (.iload_n 2, 1) := by decide +kernel
theorem dM_byteOf_12 : decode prog_3_method_9_code 12 = .ok (.iconst 5, 1) := by decide +kernel
theorem dM_byteOf_13 : decode prog_3_method_9_code 13 = .ok (.if_icmp .le 5, 3) := by decide +kernel
theorem dM_byteOf_16 : decode prog_3_method_9_code 16 = .ok (.iconst (-1), 1) := by decide +kernel
theorem dM_byteOf_17 : decode prog_3_method_9_code 17 = .ok (.ireturn, 1) := by decide +kernel
theorem dM_byteOf_18 : decode prog_3_method_9_code 18 = .ok (.iload_n 2, 1) := by decide +kernel
theorem dM_byteOf_19 : decode prog_3_method_9_code 19 = .ok (.ifCond .le 17, 3) := by decide +kernel
theorem dM_byteOf_22 : decode prog_3_method_9_code 22 = .ok (.aload_n 0, 1) := by decide +kernel
theorem dM_byteOf_23 : decode prog_3_method_9_code 23 = .ok (.getfield 13, 3) := by decide +kernel
theorem dM_byteOf_26 : decode prog_3_method_9_code 26 = .ok (.bipush 6, 2) := by decide +kernel
theorem dM_byteOf_28 : decode prog_3_method_9_code 28 = .ok (.iload_n 1, 1) := by decide +kernel
theorem dM_byteOf_29 : decode prog_3_method_9_code 29 = .ok (.imul, 1) := by decide +kernel
theorem dM_byteOf_30 : decode prog_3_method_9_code 30 = .ok (.iload_n 2, 1) := by decide +kernel
theorem dM_byteOf_31 : decode prog_3_method_9_code 31 = .ok (.iadd, 1) := by decide +kernel
theorem dM_byteOf_32 : decode prog_3_method_9_code 32 = .ok (.iaload, 1) := by decide +kernel
theorem dM_byteOf_33 : decode prog_3_method_9_code 33 = .ok (.goto 17, 3) := by decide +kernel
theorem dM_byteOf_36 : decode prog_3_method_9_code 36 = .ok (.aload_n 0, 1) := by decide +kernel
theorem dM_byteOf_37 : decode prog_3_method_9_code 37 = .ok (.getfield 7, 3) := by decide +kernel
theorem dM_byteOf_40 : decode prog_3_method_9_code 40 = .ok (.iload_n 1, 1) := by decide +kernel
theorem dM_byteOf_41 : decode prog_3_method_9_code 41 = .ok (.baload, 1) := by decide +kernel
theorem dM_byteOf_42 : decode prog_3_method_9_code 42 = .ok (.ifCond .eq 7, 3) := by decide +kernel
theorem dM_byteOf_45 : decode prog_3_method_9_code 45 = .ok (.iconst 1, 1) := by decide +kernel
theorem dM_byteOf_46 : decode prog_3_method_9_code 46 = .ok (.goto 4, 3) := by decide +kernel
theorem dM_byteOf_49 : decode prog_3_method_9_code 49 = .ok (.iconst 0, 1) := by decide +kernel
theorem dM_byteOf_50 : decode prog_3_method_9_code 50 = .ok (.ireturn, 1) := by decide +kernel
theorem dM_compare_0 : decode prog_3_method_14_code 0 = .ok (.aload_n 0, 1) := by decide +kernel
theorem dM_compare_1 : decode prog_3_method_14_code 1 = .ok (.iload_n 1, 1) := by decide +kernel
theorem dM_compare_2 : decode prog_3_method_14_code 2 = .ok (.iload_n 2, 1) := by decide +kernel
theorem dM_compare_3 : decode prog_3_method_14_code 3 = .ok (.iload_n 3, 1) := by decide +kernel
theorem dM_compare_4 : decode prog_3_method_14_code 4 = .ok (.invokevirtual 38, 3) := by decide +kernel
theorem dM_compare_7 : decode prog_3_method_14_code 7 = .ok (.ifCond .ne 6, 3) := by decide +kernel
theorem dM_compare_10 : decode prog_3_method_14_code 10 = .ok (.bipush (-2), 2) := by decide +kernel
theorem dM_compare_12 : decode prog_3_method_14_code 12 = .ok (.ireturn, 1) := by decide +kernel
theorem dM_compare_13 : decode prog_3_method_14_code 13 = .ok (.aload_n 0, 1) := by decide +kernel
theorem dM_compare_14 : decode prog_3_method_14_code 14 = .ok (.iload_n 1, 1) := by decide +kernel
theorem dM_compare_15 : decode prog_3_method_14_code 15 = .ok (.iload_n 3, 1) := by decide +kernel
theorem dM_compare_16 : decode prog_3_method_14_code 16 = .ok (.invokestatic 42, 3) := by decide +kernel
theorem dM_compare_19 : decode prog_3_method_14_code 19 = .ok (.iload_n 3, 1) := by decide +kernel
theorem dM_compare_20 : decode prog_3_method_14_code 20 = .ok (.bipush 8, 2) := by decide +kernel
theorem dM_compare_22 : decode prog_3_method_14_code 22 = .ok (.irem, 1) := by decide +kernel
theorem dM_compare_23 : decode prog_3_method_14_code 23 = .ok (.invokevirtual 30, 3) := by decide +kernel
theorem dM_compare_26 : decode prog_3_method_14_code 26 = .ok (.istore 4, 2) := by decide +kernel
theorem dM_compare_28 : decode prog_3_method_14_code 28 = .ok (.aload_n 0, 1) := by decide +kernel
theorem dM_compare_29 : decode prog_3_method_14_code 29 = .ok (.iload_n 2, 1) := by decide +kernel
theorem dM_compare_30 : decode prog_3_method_14_code 30 = .ok (.iload_n 3, 1) := by decide +kernel
theorem dM_compare_31 : decode prog_3_method_14_code 31 = .ok (.invokestatic 42, 3) := by decide +kernel
theorem dM_compare_34 : decode prog_3_method_14_code 34 = .ok (.iload_n 3, 1) := by decide +kernel
theorem dM_compare_35 : decode prog_3_method_14_code 35 = .ok (.bipush 8, 2) := by decide +kernel
theorem dM_compare_37 : decode prog_3_method_14_code 37 = .ok (.irem, 1) := by decide +kernel
theorem dM_compare_38 : decode prog_3_method_14_code 38 = .ok (.invokevirtual 30, 3) := by decide +kernel
theorem dM_compare_41 : decode prog_3_method_14_code 41 = .ok (.istore 5, 2) := by decide +kernel
theorem dM_compare_43 : decode prog_3_method_14_code 43 = .ok (.iload_n 3, 1) := by decide +kernel
theorem dM_compare_44 : decode prog_3_method_14_code 44 = .ok (.bipush 8, 2) := by decide +kernel
theorem dM_compare_46 : decode prog_3_method_14_code 46 = .ok (.if_icmp .ge 18, 3) := by decide +kernel
theorem dM_compare_49 : decode prog_3_method_14_code 49 = .ok (.aload_n 0, 1) := by decide +kernel
theorem dM_compare_50 : decode prog_3_method_14_code 50 = .ok (.getfield 7, 3) := by decide +kernel
theorem dM_compare_53 : decode prog_3_method_14_code 53 = .ok (.iload_n 1, 1) := by decide +kernel
theorem dM_compare_54 : decode prog_3_method_14_code 54 = .ok (.baload, 1) := by decide +kernel
theorem dM_compare_55 : decode prog_3_method_14_code 55 = .ok (.ifCond .eq 9, 3) := by decide +kernel
theorem dM_compare_58 : decode prog_3_method_14_code 58 = .ok (.iload 4, 2) := by decide +kernel
theorem dM_compare_60 : decode prog_3_method_14_code 60 = .ok (.ineg, 1) := by decide +kernel
theorem dM_compare_61 : decode prog_3_method_14_code 61 = .ok (.goto 5, 3) := by decide +kernel
theorem dM_compare_64 : decode prog_3_method_14_code 64 = .ok (.iload 4, 2) := by decide +kernel
theorem dM_compare_66 : decode prog_3_method_14_code 66 = .ok (.istore 4, 2) := by decide +kernel
theorem dM_compare_68 : decode prog_3_method_14_code 68 = .ok (.iload_n 3, 1) := by decide +kernel
theorem dM_compare_69 : decode prog_3_method_14_code 69 = .ok (.bipush 8, 2) := by decide +kernel
theorem dM_compare_71 : decode prog_3_method_14_code 71 = .ok (.if_icmp .ge 18, 3) := by decide +kernel
theorem dM_compare_74 : decode prog_3_method_14_code 74 = .ok (.aload_n 0, 1) := by decide +kernel
theorem dM_compare_75 : decode prog_3_method_14_code 75 = .ok (.getfield 7, 3) := by decide +kernel
theorem dM_compare_78 : decode prog_3_method_14_code 78 = .ok (.iload_n 2, 1) := by decide +kernel
theorem dM_compare_79 : decode prog_3_method_14_code 79 = .ok (.baload, 1) := by decide +kernel
theorem dM_compare_80 : decode prog_3_method_14_code 80 = .ok (.ifCond .eq 9, 3) := by decide +kernel
theorem dM_compare_83 : decode prog_3_method_14_code 83 = .ok (.iload 5, 2) := by decide +kernel
theorem dM_compare_85 : decode prog_3_method_14_code 85 = .ok (.ineg, 1) := by decide +kernel
theorem dM_compare_86 : decode prog_3_method_14_code 86 = .ok (.goto 5, 3) := by decide +kernel
theorem dM_compare_89 : decode prog_3_method_14_code 89 = .ok (.iload 5, 2) := by decide +kernel
theorem dM_compare_91 : decode prog_3_method_14_code 91 = .ok (.istore 5, 2) := by decide +kernel
theorem dM_compare_93 : decode prog_3_method_14_code 93 = .ok (.iload 4, 2) := by decide +kernel
theorem dM_compare_95 : decode prog_3_method_14_code 95 = .ok (.iload 5, 2) := by decide +kernel
theorem dM_compare_97 : decode prog_3_method_14_code 97 = .ok (.if_icmp .ge 7, 3) := by decide +kernel
theorem dM_compare_100 : decode prog_3_method_14_code 100 = .ok (.iconst (-1), 1) := by decide +kernel
theorem dM_compare_101 : decode prog_3_method_14_code 101 = .ok (.goto 15, 3) := by decide +kernel
theorem dM_compare_104 : decode prog_3_method_14_code 104 = .ok (.iload 4, 2) := by decide +kernel
theorem dM_compare_106 : decode prog_3_method_14_code 106 = .ok (.iload 5, 2) := by decide +kernel
theorem dM_compare_108 : decode prog_3_method_14_code 108 = .ok (.if_icmp .le 7, 3) := by decide +kernel
theorem dM_compare_111 : decode prog_3_method_14_code 111 = .ok (.iconst 1, 1) := by decide +kernel
theorem dM_compare_112 : decode prog_3_method_14_code 112 = .ok (.goto 4, 3) := by decide +kernel
theorem dM_compare_115 : decode prog_3_method_14_code 115 = .ok (.iconst 0, 1) := by decide +kernel
theorem dM_compare_116 : decode prog_3_method_14_code 116 = .ok (.ireturn, 1) := by decide +kernel
theorem dM_letter_0 : decode prog_3_method_16_code 0 = .ok (.iload_n 1, 1) := by decide +kernel
theorem dM_letter_1 : decode prog_3_method_16_code 1 = .ok (.ifCond .lt 9, 3) := by decide +kernel
theorem dM_letter_4 : decode prog_3_method_16_code 4 = .ok (.iload_n 1, 1) := by decide +kernel
theorem dM_letter_5 : decode prog_3_method_16_code 5 = .ok (.bipush 63, 2) := by decide +kernel
theorem dM_letter_7 : decode prog_3_method_16_code 7 = .ok (.if_icmp .le 7, 3) := by decide +kernel
theorem dM_letter_10 : decode prog_3_method_16_code 10 = .ok (.iconst (-1), 1) := by decide +kernel
theorem dM_letter_11 : decode prog_3_method_16_code 11 = .ok (.goto 20, 3) := by decide +kernel
theorem dM_letter_14 : decode prog_3_method_16_code 14 = .ok (.iload_n 1, 1) := by decide +kernel
theorem dM_letter_15 : decode prog_3_method_16_code 15 = .ok (.bipush 56, 2) := by decide +kernel
theorem dM_letter_17 : decode prog_3_method_16_code 17 = .ok (.if_icmp .ge 12, 3) := by decide +kernel
theorem dM_letter_20 : decode prog_3_method_16_code 20 = .ok (.aload_n 0, 1) := by decide +kernel
theorem dM_letter_21 : decode prog_3_method_16_code 21 = .ok (.getfield 17, 3) := by decide +kernel
theorem dM_letter_24 : decode prog_3_method_16_code 24 = .ok (.iload_n 1, 1) := by decide +kernel
theorem dM_letter_25 : decode prog_3_method_16_code 25 = .ok (.iaload, 1) := by decide +kernel
theorem dM_letter_26 : decode prog_3_method_16_code 26 = .ok (.goto 5, 3) := by decide +kernel
theorem dM_letter_29 : decode prog_3_method_16_code 29 = .ok (.bipush 63, 2) := by decide +kernel
theorem dM_letter_31 : decode prog_3_method_16_code 31 = .ok (.ireturn, 1) := by decide +kernel
theorem dM_turn_0 : decode prog_3_method_13_code 0 = .ok (.iload_n 1, 1) := by decide +kernel
theorem dM_turn_1 : decode prog_3_method_13_code 1 = .ok (.invokestatic 24, 3) := by decide +kernel
theorem dM_turn_4 : decode prog_3_method_13_code 4 = .ok (.ifCond .ne 5, 3) := by decide +kernel
theorem dM_turn_7 : decode prog_3_method_13_code 7 = .ok (.iconst 0, 1) := by decide +kernel
theorem dM_turn_8 : decode prog_3_method_13_code 8 = .ok (.ireturn, 1) := by decide +kernel
theorem dM_turn_9 : decode prog_3_method_13_code 9 = .ok (.aload_n 0, 1) := by decide +kernel
theorem dM_turn_10 : decode prog_3_method_13_code 10 = .ok (.getfield 7, 3) := by decide +kernel
theorem dM_turn_13 : decode prog_3_method_13_code 13 = .ok (.iload_n 1, 1) := by decide +kernel
theorem dM_turn_14 : decode prog_3_method_13_code 14 = .ok (.aload_n 0, 1) := by decide +kernel
theorem dM_turn_15 : decode prog_3_method_13_code 15 = .ok (.getfield 7, 3) := by decide +kernel
theorem dM_turn_18 : decode prog_3_method_13_code 18 = .ok (.iload_n 1, 1) := by decide +kernel
theorem dM_turn_19 : decode prog_3_method_13_code 19 = .ok (.baload, 1) := by decide +kernel
theorem dM_turn_20 : decode prog_3_method_13_code 20 = .ok (.ifCond .ne 7, 3) := by decide +kernel
theorem dM_turn_23 : decode prog_3_method_13_code 23 = .ok (.iconst 1, 1) := by decide +kernel
theorem dM_turn_24 : decode prog_3_method_13_code 24 = .ok (.goto 4, 3) := by decide +kernel
theorem dM_turn_27 : decode prog_3_method_13_code 27 = .ok (.iconst 0, 1) := by decide +kernel
theorem dM_turn_28 : decode prog_3_method_13_code 28 = .ok (.bastore, 1) := by decide +kernel
theorem dM_turn_29 : decode prog_3_method_13_code 29 = .ok (.iconst 1, 1) := by decide +kernel
theorem dM_turn_30 : decode prog_3_method_13_code 30 = .ok (.ireturn, 1) := by decide +kernel
theorem dM_set_0 : decode prog_3_method_6_code 0 = .ok (.ldc 23, 2) := by decide +kernel
theorem dM_set_2 : decode prog_3_method_6_code 2 = .ok (.istore 4, 2) := by decide +kernel
theorem dM_set_4 : decode prog_3_method_6_code 4 = .ok (.iload_n 1, 1) := by decide +kernel
theorem dM_set_5 : decode prog_3_method_6_code 5 = .ok (.invokestatic 24, 3) := by decide +kernel
theorem dM_set_8 : decode prog_3_method_6_code 8 = .ok (.ifCond .eq 15, 3) := by decide +kernel
theorem dM_set_11 : decode prog_3_method_6_code 11 = .ok (.iload_n 2, 1) := by decide +kernel
theorem dM_set_12 : decode prog_3_method_6_code 12 = .ok (.iload 4, 2) := by decide +kernel
theorem dM_set_14 : decode prog_3_method_6_code 14 = .ok (.if_icmp .le 9, 3) := by decide +kernel
theorem dM_set_17 : decode prog_3_method_6_code 17 = .ok (.iload_n 2, 1) := by decide +kernel
theorem dM_set_18 : decode prog_3_method_6_code 18 = .ok (.ldc 28, 2) := by decide +kernel
theorem dM_set_20 : decode prog_3_method_6_code 20 = .ok (.if_icmp .lt 5, 3) := by decide +kernel
theorem dM_set_23 : decode prog_3_method_6_code 23 = .ok (.iconst 0, 1) := by decide +kernel
theorem dM_set_24 : decode prog_3_method_6_code 24 = .ok (.ireturn, 1) := by decide +kernel
theorem dM_set_25 : decode prog_3_method_6_code 25 = .ok (.aload_n 0, 1) := by decide +kernel
theorem dM_set_26 : decode prog_3_method_6_code 26 = .ok (.getfield 7, 3) := by decide +kernel
theorem dM_set_29 : decode prog_3_method_6_code 29 = .ok (.iload_n 1, 1) := by decide +kernel
theorem dM_set_30 : decode prog_3_method_6_code 30 = .ok (.iload_n 2, 1) := by decide +kernel
theorem dM_set_31 : decode prog_3_method_6_code 31 = .ok (.ifCond .lt 11, 3) := by decide +kernel
theorem dM_set_34 : decode prog_3_method_6_code 34 = .ok (.iload_n 2, 1) := by decide +kernel
theorem dM_set_35 : decode prog_3_method_6_code 35 = .ok (.ifCond .ne 11, 3) := by decide +kernel
theorem dM_set_38 : decode prog_3_method_6_code 38 = .ok (.iload_n 3, 1) := by decide +kernel
theorem dM_set_39 : decode prog_3_method_6_code 39 = .ok (.ifCond .eq 7, 3) := by decide +kernel
theorem dM_set_42 : decode prog_3_method_6_code 42 = .ok (.iconst 1, 1) := by decide +kernel
theorem dM_set_43 : decode prog_3_method_6_code 43 = .ok (.goto 4, 3) := by decide +kernel
theorem dM_set_46 : decode prog_3_method_6_code 46 = .ok (.iconst 0, 1) := by decide +kernel
theorem dM_set_47 : decode prog_3_method_6_code 47 = .ok (.bastore, 1) := by decide +kernel
theorem dM_set_48 : decode prog_3_method_6_code 48 = .ok (.iload_n 2, 1) := by decide +kernel
theorem dM_set_49 : decode prog_3_method_6_code 49 = .ok (.ifCond .ge 8, 3) := by decide +kernel
theorem dM_set_52 : decode prog_3_method_6_code 52 = .ok (.iload_n 2, 1) := by decide +kernel
theorem dM_set_53 : decode prog_3_method_6_code 53 = .ok (.ineg, 1) := by decide +kernel
theorem dM_set_54 : decode prog_3_method_6_code 54 = .ok (.goto 4, 3) := by decide +kernel
theorem dM_set_57 : decode prog_3_method_6_code 57 = .ok (.iload_n 2, 1) := by decide +kernel
theorem dM_set_58 : decode prog_3_method_6_code 58 = .ok (.istore 5, 2) := by decide +kernel
theorem dM_set_60 : decode prog_3_method_6_code 60 = .ok (.iconst 5, 1) := by decide +kernel
theorem dM_set_61 : decode prog_3_method_6_code 61 = .ok (.istore 6, 2) := by decide +kernel
theorem dM_set_63 : decode prog_3_method_6_code 63 = .ok (.iload 6, 2) := by decide +kernel
theorem dM_set_65 : decode prog_3_method_6_code 65 = .ok (.ifCond .le 33, 3) := by decide +kernel
theorem dM_set_68 : decode prog_3_method_6_code 68 = .ok (.aload_n 0, 1) := by decide +kernel
theorem dM_set_69 : decode prog_3_method_6_code 69 = .ok (.getfield 13, 3) := by decide +kernel
theorem dM_set_72 : decode prog_3_method_6_code 72 = .ok (.bipush 6, 2) := by decide +kernel
theorem dM_set_74 : decode prog_3_method_6_code 74 = .ok (.iload_n 1, 1) := by decide +kernel
theorem dM_set_75 : decode prog_3_method_6_code 75 = .ok (.imul, 1) := by decide +kernel
theorem dM_set_76 : decode prog_3_method_6_code 76 = .ok (.iload 6, 2) := by decide +kernel
theorem dM_set_78 : decode prog_3_method_6_code 78 = .ok (.iadd, 1) := by decide +kernel
theorem dM_set_79 : decode prog_3_method_6_code 79 = .ok (.iload 5, 2) := by decide +kernel
theorem dM_set_81 : decode prog_3_method_6_code 81 = .ok (.bipush 64, 2) := by decide +kernel
theorem dM_set_83 : decode prog_3_method_6_code 83 = .ok (.irem, 1) := by decide +kernel
theorem dM_set_84 : decode prog_3_method_6_code 84 = .ok (.iastore, 1) := by decide +kernel
theorem dM_set_85 : decode prog_3_method_6_code 85 = .ok (.iload 5, 2) := by decide +kernel
theorem dM_set_87 : decode prog_3_method_6_code 87 = .ok (.bipush 64, 2) := by decide +kernel
theorem dM_set_89 : decode prog_3_method_6_code 89 = .ok (.idiv, 1) := by decide +kernel
theorem dM_set_90 : decode prog_3_method_6_code 90 = .ok (.istore 5, 2) := by decide +kernel
theorem dM_set_92 : decode prog_3_method_6_code 92 = .ok (.iinc 6 (-1), 3) := by decide +kernel
theorem dM_set_95 : decode prog_3_method_6_code 95 = .ok (.goto (-32), 3) := by decide +kernel
theorem dM_set_98 : decode prog_3_method_6_code 98 = .ok (.iconst 1, 1) := by decide +kernel
theorem dM_set_99 : decode prog_3_method_6_code 99 = .ok (.ireturn, 1) := by decide +kernel
theorem dM_load_0 : decode prog_3_method_11_code 0 = .ok (.aload_n 0, 1) := by decide +kernel
theorem dM_load_1 : decode prog_3_method_11_code 1 = .ok (.iload_n 1, 1) := by decide +kernel
theorem dM_load_2 : decode prog_3_method_11_code 2 = .ok (.iload_n 2, 1) := by decide +kernel
theorem dM_load_3 : decode prog_3_method_11_code 3 = .ok (.iload_n 3, 1) := by decide +kernel
theorem dM_load_4 : decode prog_3_method_11_code 4 = .ok (.invokevirtual 38, 3) := by decide +kernel
theorem dM_load_7 : decode prog_3_method_11_code 7 = .ok (.ifCond .ne 5, 3) := by decide +kernel
theorem dM_load_10 : decode prog_3_method_11_code 10 = .ok (.iconst 0, 1) := by decide +kernel
theorem dM_load_11 : decode prog_3_method_11_code 11 = .ok (.ireturn, 1) := by decide +kernel
theorem dM_load_12 : decode prog_3_method_11_code 12 = .ok (.iconst 1, 1) := by decide +kernel
theorem dM_load_13 : decode prog_3_method_11_code 13 = .ok (.istore 4, 2) := by decide +kernel
theorem dM_load_15 : decode prog_3_method_11_code 15 = .ok (.iload 4, 2) := by decide +kernel
theorem dM_load_17 : decode prog_3_method_11_code 17 = .ok (.bipush 6, 2) := by decide +kernel
theorem dM_load_19 : decode prog_3_method_11_code 19 = .ok (.if_icmp .ge 52, 3) := by decide +kernel
theorem dM_load_22 : decode prog_3_method_11_code 22 = .ok (.iload 4, 2) := by decide +kernel
theorem dM_load_24 : decode prog_3_method_11_code 24 = .ok (.iconst 5, 1) := by decide +kernel
theorem dM_load_25 : decode prog_3_method_11_code 25 = .ok (.isub, 1) := by decide +kernel
theorem dM_load_26 : decode prog_3_method_11_code 26 = .ok (.iload_n 3, 1) := by decide +kernel
theorem dM_load_27 : decode prog_3_method_11_code 27 = .ok (.bipush 8, 2) := by decide +kernel
theorem dM_load_29 : decode prog_3_method_11_code 29 = .ok (.irem, 1) := by decide +kernel
theorem dM_load_30 : decode prog_3_method_11_code 30 = .ok (.iadd, 1) := by decide +kernel
theorem dM_load_31 : decode prog_3_method_11_code 31 = .ok (.istore 5, 2) := by decide +kernel
theorem dM_load_33 : decode prog_3_method_11_code 33 = .ok (.aload_n 0, 1) := by decide +kernel
theorem dM_load_34 : decode prog_3_method_11_code 34 = .ok (.getfield 20, 3) := by decide +kernel
theorem dM_load_37 : decode prog_3_method_11_code 37 = .ok (.iload 4, 2) := by decide +kernel
theorem dM_load_39 : decode prog_3_method_11_code 39 = .ok (.iload 5, 2) := by decide +kernel
theorem dM_load_41 : decode prog_3_method_11_code 41 = .ok (.iload_n 3, 1) := by decide +kernel
theorem dM_load_42 : decode prog_3_method_11_code 42 = .ok (.invokestatic 42, 3) := by decide +kernel
theorem dM_load_45 : decode prog_3_method_11_code 45 = .ok (.if_icmp .lt 18, 3) := by decide +kernel
theorem dM_load_48 : decode prog_3_method_11_code 48 = .ok (.aload_n 0, 1) := by decide +kernel
theorem dM_load_49 : decode prog_3_method_11_code 49 = .ok (.getfield 13, 3) := by decide +kernel
theorem dM_load_52 : decode prog_3_method_11_code 52 = .ok (.bipush 6, 2) := by decide +kernel
theorem dM_load_54 : decode prog_3_method_11_code 54 = .ok (.iload_n 2, 1) := by decide +kernel
theorem dM_load_55 : decode prog_3_method_11_code 55 = .ok (.imul, 1) := by decide +kernel
theorem dM_load_56 : decode prog_3_method_11_code 56 = .ok (.iload 5, 2) := by decide +kernel
theorem dM_load_58 : decode prog_3_method_11_code 58 = .ok (.iadd, 1) := by decide +kernel
theorem dM_load_59 : decode prog_3_method_11_code 59 = .ok (.iaload, 1) := by decide +kernel
theorem dM_load_60 : decode prog_3_method_11_code 60 = .ok (.goto 4, 3) := by decide +kernel
theorem dM_load_63 : decode prog_3_method_11_code 63 = .ok (.iconst 0, 1) := by decide +kernel
theorem dM_load_64 : decode prog_3_method_11_code 64 = .ok (.iastore, 1) := by decide +kernel
theorem dM_load_65 : decode prog_3_method_11_code 65 = .ok (.iinc 4 1, 3) := by decide +kernel
theorem dM_load_68 : decode prog_3_method_11_code 68 = .ok (.goto (-53), 3) := by decide +kernel
theorem dM_load_71 : decode prog_3_method_11_code 71 = .ok (.iconst 1, 1) := by decide +kernel
theorem dM_load_72 : decode prog_3_method_11_code 72 = .ok (.istore 4, 2) := by decide +kernel
theorem dM_load_74 : decode prog_3_method_11_code 74 = .ok (.iload 4, 2) := by decide +kernel
theorem dM_load_76 : decode prog_3_method_11_code 76 = .ok (.bipush 6, 2) := by decide +kernel
theorem dM_load_78 : decode prog_3_method_11_code 78 = .ok (.if_icmp .ge 28, 3) := by decide +kernel
theorem dM_load_81 : decode prog_3_method_11_code 81 = .ok (.aload_n 0, 1) := by decide +kernel
theorem dM_load_82 : decode prog_3_method_11_code 82 = .ok (.getfield 13, 3) := by decide +kernel
theorem dM_load_85 : decode prog_3_method_11_code 85 = .ok (.bipush 6, 2) := by decide +kernel
theorem dM_load_87 : decode prog_3_method_11_code 87 = .ok (.iload_n 1, 1) := by decide +kernel
theorem dM_load_88 : decode prog_3_method_11_code 88 = .ok (.imul, 1) := by decide +kernel
theorem dM_load_89 : decode prog_3_method_11_code 89 = .ok (.iload 4, 2) := by decide +kernel
theorem dM_load_91 : decode prog_3_method_11_code 91 = .ok (.iadd, 1) := by decide +kernel
theorem dM_load_92 : decode prog_3_method_11_code 92 = .ok (.aload_n 0, 1) := by decide +kernel
theorem dM_load_93 : decode prog_3_method_11_code 93 = .ok (.getfield 20, 3) := by decide +kernel
theorem dM_load_96 : decode prog_3_method_11_code 96 = .ok (.iload 4, 2) := by decide +kernel
theorem dM_load_98 : decode prog_3_method_11_code 98 = .ok (.iaload, 1) := by decide +kernel
theorem dM_load_99 : decode prog_3_method_11_code 99 = .ok (.iastore, 1) := by decide +kernel
theorem dM_load_100 : decode prog_3_method_11_code 100 = .ok (.iinc 4 1, 3) := by decide +kernel
theorem dM_load_103 : decode prog_3_method_11_code 103 = .ok (.goto (-29), 3) := by decide +kernel
theorem dM_load_106 : decode prog_3_method_11_code 106 = .ok (.aload_n 0, 1) := by decide +kernel
theorem dM_load_107 : decode prog_3_method_11_code 107 = .ok (.getfield 7, 3) := by decide +kernel
theorem dM_load_110 : decode prog_3_method_11_code 110 = .ok (.iload_n 1, 1) := by decide +kernel
theorem dM_load_111 : decode prog_3_method_11_code 111 = .ok (.iload_n 3, 1) := by decide +kernel
theorem dM_load_112 : decode prog_3_method_11_code 112 = .ok (.bipush 8, 2) := by decide +kernel
theorem dM_load_114 : decode prog_3_method_11_code 114 = .ok (.if_icmp .ge 16, 3) := by decide +kernel
theorem dM_load_117 : decode prog_3_method_11_code 117 = .ok (.aload_n 0, 1) := by decide +kernel
theorem dM_load_118 : decode prog_3_method_11_code 118 = .ok (.getfield 7, 3) := by decide +kernel
theorem dM_load_121 : decode prog_3_method_11_code 121 = .ok (.iload_n 2, 1) := by decide +kernel
theorem dM_load_122 : decode prog_3_method_11_code 122 = .ok (.baload, 1) := by decide +kernel
theorem dM_load_123 : decode prog_3_method_11_code 123 = .ok (.ifCond .eq 7, 3) := by decide +kernel
theorem dM_load_126 : decode prog_3_method_11_code 126 = .ok (.iconst 1, 1) := by decide +kernel
theorem dM_load_127 : decode prog_3_method_11_code 127 = .ok (.goto 4, 3) := by decide +kernel
theorem dM_load_130 : decode prog_3_method_11_code 130 = .ok (.iconst 0, 1) := by decide +kernel
theorem dM_load_131 : decode prog_3_method_11_code 131 = .ok (.bastore, 1) := by decide +kernel
theorem dM_load_132 : decode prog_3_method_11_code 132 = .ok (.iconst 1, 1) := by decide +kernel
theorem dM_load_133 : decode prog_3_method_11_code 133 = .ok (.ireturn, 1) := by decide +kernel
theorem dM_store_0 : decode prog_3_method_12_code 0 = .ok (.aload_n 0, 1) := by decide +kernel
theorem dM_store_1 : decode prog_3_method_12_code 1 = .ok (.iload_n 1, 1) := by decide +kernel
theorem dM_store_2 : decode prog_3_method_12_code 2 = .ok (.iload_n 2, 1) := by decide +kernel
theorem dM_store_3 : decode prog_3_method_12_code 3 = .ok (.iload_n 3, 1) := by decide +kernel
theorem dM_store_4 : decode prog_3_method_12_code 4 = .ok (.invokevirtual 38, 3) := by decide +kernel
theorem dM_store_7 : decode prog_3_method_12_code 7 = .ok (.ifCond .ne 5, 3) := by decide +kernel
theorem dM_store_10 : decode prog_3_method_12_code 10 = .ok (.iconst 0, 1) := by decide +kernel
theorem dM_store_11 : decode prog_3_method_12_code 11 = .ok (.ireturn, 1) := by decide +kernel
theorem dM_store_12 : decode prog_3_method_12_code 12 = .ok (.iconst 1, 1) := by decide +kernel
theorem dM_store_13 : decode prog_3_method_12_code 13 = .ok (.istore 4, 2) := by decide +kernel
theorem dM_store_15 : decode prog_3_method_12_code 15 = .ok (.iload 4, 2) := by decide +kernel
theorem dM_store_17 : decode prog_3_method_12_code 17 = .ok (.bipush 6, 2) := by decide +kernel
theorem dM_store_19 : decode prog_3_method_12_code 19 = .ok (.if_icmp .ge 80, 3) := by decide +kernel
theorem dM_store_22 : decode prog_3_method_12_code 22 = .ok (.iload 4, 2) := by decide +kernel
theorem dM_store_24 : decode prog_3_method_12_code 24 = .ok (.iload_n 3, 1) := by decide +kernel
theorem dM_store_25 : decode prog_3_method_12_code 25 = .ok (.invokestatic 42, 3) := by decide +kernel
theorem dM_store_28 : decode prog_3_method_12_code 28 = .ok (.if_icmp .lt 16, 3) := by decide +kernel
theorem dM_store_31 : decode prog_3_method_12_code 31 = .ok (.iload 4, 2) := by decide +kernel
theorem dM_store_33 : decode prog_3_method_12_code 33 = .ok (.iload_n 3, 1) := by decide +kernel
theorem dM_store_34 : decode prog_3_method_12_code 34 = .ok (.bipush 8, 2) := by decide +kernel
theorem dM_store_36 : decode prog_3_method_12_code 36 = .ok (.irem, 1) := by decide +kernel
theorem dM_store_37 : decode prog_3_method_12_code 37 = .ok (.if_icmp .gt 7, 3) := by decide +kernel
theorem dM_store_40 : decode prog_3_method_12_code 40 = .ok (.iconst 1, 1) := by decide +kernel
theorem dM_store_41 : decode prog_3_method_12_code 41 = .ok (.goto 4, 3) := by decide +kernel
theorem dM_store_44 : decode prog_3_method_12_code 44 = .ok (.iconst 0, 1) := by decide +kernel
theorem dM_store_45 : decode prog_3_method_12_code 45 = .ok (.istore 5, 2) := by decide +kernel
theorem dM_store_47 : decode prog_3_method_12_code 47 = .ok (.aload_n 0, 1) := by decide +kernel
theorem dM_store_48 : decode prog_3_method_12_code 48 = .ok (.getfield 20, 3) := by decide +kernel
theorem dM_store_51 : decode prog_3_method_12_code 51 = .ok (.iload 4, 2) := by decide +kernel
theorem dM_store_53 : decode prog_3_method_12_code 53 = .ok (.iload 5, 2) := by decide +kernel
theorem dM_store_55 : decode prog_3_method_12_code 55 = .ok (.ifCond .eq 25, 3) := by decide +kernel
theorem dM_store_58 : decode prog_3_method_12_code 58 = .ok (.aload_n 0, 1) := by decide +kernel
theorem dM_store_59 : decode prog_3_method_12_code 59 = .ok (.getfield 13, 3) := by decide +kernel
theorem dM_store_62 : decode prog_3_method_12_code 62 = .ok (.bipush 6, 2) := by decide +kernel
theorem dM_store_64 : decode prog_3_method_12_code 64 = .ok (.iload_n 2, 1) := by decide +kernel
theorem dM_store_65 : decode prog_3_method_12_code 65 = .ok (.imul, 1) := by decide +kernel
theorem dM_store_66 : decode prog_3_method_12_code 66 = .ok (.iload 4, 2) := by decide +kernel
theorem dM_store_68 : decode prog_3_method_12_code 68 = .ok (.iadd, 1) := by decide +kernel
theorem dM_store_69 : decode prog_3_method_12_code 69 = .ok (.iconst 5, 1) := by decide +kernel
theorem dM_store_70 : decode prog_3_method_12_code 70 = .ok (.iadd, 1) := by decide +kernel
theorem dM_store_71 : decode prog_3_method_12_code 71 = .ok (.iload_n 3, 1) := by decide +kernel
theorem dM_store_72 : decode prog_3_method_12_code 72 = .ok (.bipush 8, 2) := by decide +kernel
theorem dM_store_74 : decode prog_3_method_12_code 74 = .ok (.irem, 1) := by decide +kernel
theorem dM_store_75 : decode prog_3_method_12_code 75 = .ok (.isub, 1) := by decide +kernel
theorem dM_store_76 : decode prog_3_method_12_code 76 = .ok (.iaload, 1) := by decide +kernel
theorem dM_store_77 : decode prog_3_method_12_code 77 = .ok (.goto 15, 3) := by decide +kernel
theorem dM_store_80 : decode prog_3_method_12_code 80 = .ok (.aload_n 0, 1) := by decide +kernel
theorem dM_store_81 : decode prog_3_method_12_code 81 = .ok (.getfield 13, 3) := by decide +kernel
theorem dM_store_84 : decode prog_3_method_12_code 84 = .ok (.bipush 6, 2) := by decide +kernel
theorem dM_store_86 : decode prog_3_method_12_code 86 = .ok (.iload_n 1, 1) := by decide +kernel
theorem dM_store_87 : decode prog_3_method_12_code 87 = .ok (.imul, 1) := by decide +kernel
theorem dM_store_88 : decode prog_3_method_12_code 88 = .ok (.iload 4, 2) := by decide +kernel
theorem dM_store_90 : decode prog_3_method_12_code 90 = .ok (.iadd, 1) := by decide +kernel
theorem dM_store_91 : decode prog_3_method_12_code 91 = .ok (.iaload, 1) := by decide +kernel
theorem dM_store_92 : decode prog_3_method_12_code 92 = .ok (.iastore, 1) := by decide +kernel
theorem dM_store_93 : decode prog_3_method_12_code 93 = .ok (.iinc 4 1, 3) := by decide +kernel
theorem dM_store_96 : decode prog_3_method_12_code 96 = .ok (.goto (-81), 3) := by decide +kernel
theorem dM_store_99 : decode prog_3_method_12_code 99 = .ok (.iconst 1, 1) := by decide +kernel
theorem dM_store_100 : decode prog_3_method_12_code 100 = .ok (.istore 4, 2) := by decide +kernel
theorem dM_store_102 : decode prog_3_method_12_code 102 = .ok (.iload 4, 2) := by decide +kernel
theorem dM_store_104 : decode prog_3_method_12_code 104 = .ok (.bipush 6, 2) := by decide +kernel
theorem dM_store_106 : decode prog_3_method_12_code 106 = .ok (.if_icmp .ge 28, 3) := by decide +kernel
theorem dM_store_109 : decode prog_3_method_12_code 109 = .ok (.aload_n 0, 1) := by decide +kernel
theorem dM_store_110 : decode prog_3_method_12_code 110 = .ok (.getfield 13, 3) := by decide +kernel
theorem dM_store_113 : decode prog_3_method_12_code 113 = .ok (.bipush 6, 2) := by decide +kernel
theorem dM_store_115 : decode prog_3_method_12_code 115 = .ok (.iload_n 1, 1) := by decide +kernel
theorem dM_store_116 : decode prog_3_method_12_code 116 = .ok (.imul, 1) := by decide +kernel
theorem dM_store_117 : decode prog_3_method_12_code 117 = .ok (.iload 4, 2) := by decide +kernel
theorem dM_store_119 : decode prog_3_method_12_code 119 = .ok (.iadd, 1) := by decide +kernel
theorem dM_store_120 : decode prog_3_method_12_code 120 = .ok (.aload_n 0, 1) := by decide +kernel
theorem dM_store_121 : decode prog_3_method_12_code 121 = .ok (.getfield 20, 3) := by decide +kernel
theorem dM_store_124 : decode prog_3_method_12_code 124 = .ok (.iload 4, 2) := by decide +kernel
theorem dM_store_126 : decode prog_3_method_12_code 126 = .ok (.iaload, 1) := by decide +kernel
theorem dM_store_127 : decode prog_3_method_12_code 127 = .ok (.iastore, 1) := by decide +kernel
theorem dM_store_128 : decode prog_3_method_12_code 128 = .ok (.iinc 4 1, 3) := by decide +kernel
theorem dM_store_131 : decode prog_3_method_12_code 131 = .ok (.goto (-29), 3) := by decide +kernel
theorem dM_store_134 : decode prog_3_method_12_code 134 = .ok (.aload_n 0, 1) := by decide +kernel
theorem dM_store_135 : decode prog_3_method_12_code 135 = .ok (.getfield 7, 3) := by decide +kernel
theorem dM_store_138 : decode prog_3_method_12_code 138 = .ok (.iload_n 1, 1) := by decide +kernel
theorem dM_store_139 : decode prog_3_method_12_code 139 = .ok (.iload_n 3, 1) := by decide +kernel
theorem dM_store_140 : decode prog_3_method_12_code 140 = .ok (.bipush 8, 2) := by decide +kernel
theorem dM_store_142 : decode prog_3_method_12_code 142 = .ok (.if_icmp .ge 12, 3) := by decide +kernel
theorem dM_store_145 : decode prog_3_method_12_code 145 = .ok (.aload_n 0, 1) := by decide +kernel
theorem dM_store_146 : decode prog_3_method_12_code 146 = .ok (.getfield 7, 3) := by decide +kernel
theorem dM_store_149 : decode prog_3_method_12_code 149 = .ok (.iload_n 2, 1) := by decide +kernel
theorem dM_store_150 : decode prog_3_method_12_code 150 = .ok (.baload, 1) := by decide +kernel
theorem dM_store_151 : decode prog_3_method_12_code 151 = .ok (.goto 9, 3) := by decide +kernel
theorem dM_store_154 : decode prog_3_method_12_code 154 = .ok (.aload_n 0, 1) := by decide +kernel
theorem dM_store_155 : decode prog_3_method_12_code 155 = .ok (.getfield 7, 3) := by decide +kernel
theorem dM_store_158 : decode prog_3_method_12_code 158 = .ok (.iload_n 1, 1) := by decide +kernel
theorem dM_store_159 : decode prog_3_method_12_code 159 = .ok (.baload, 1) := by decide +kernel
theorem dM_store_160 : decode prog_3_method_12_code 160 = .ok (.bastore, 1) := by decide +kernel
theorem dM_store_161 : decode prog_3_method_12_code 161 = .ok (.iconst 1, 1) := by decide +kernel
theorem dM_store_162 : decode prog_3_method_12_code 162 = .ok (.ireturn, 1) := by decide +kernel
theorem dM_code_0 : decode prog_3_method_17_code 0 = .ok (.iload_n 1, 1) := by decide +kernel
theorem dM_code_1 : decode prog_3_method_17_code 1 = .ok (.ifCond .lt 10, 3) := by decide +kernel
theorem dM_code_4 : decode prog_3_method_17_code 4 = .ok (.iload_n 1, 1) := by decide +kernel
theorem dM_code_5 : decode prog_3_method_17_code 5 = .ok (.sipush 255, 3) := by decide +kernel
theorem dM_code_8 : decode prog_3_method_17_code 8 = .ok (.if_icmp .le 5, 3) := by decide +kernel
theorem dM_code_11 : decode prog_3_method_17_code 11 = .ok (.iconst (-1), 1) := by decide +kernel
theorem dM_code_12 : decode prog_3_method_17_code 12 = .ok (.ireturn, 1) := by decide +kernel
theorem dM_code_13 : decode prog_3_method_17_code 13 = .ok (.iload_n 1, 1) := by decide +kernel
theorem dM_code_14 : decode prog_3_method_17_code 14 = .ok (.bipush 97, 2) := by decide +kernel
theorem dM_code_16 : decode prog_3_method_17_code 16 = .ok (.if_icmp .lt 16, 3) := by decide +kernel
theorem dM_code_19 : decode prog_3_method_17_code 19 = .ok (.iload_n 1, 1) := by decide +kernel
theorem dM_code_20 : decode prog_3_method_17_code 20 = .ok (.bipush 122, 2) := by decide +kernel
theorem dM_code_22 : decode prog_3_method_17_code 22 = .ok (.if_icmp .gt 10, 3) := by decide +kernel
theorem dM_code_25 : decode prog_3_method_17_code 25 = .ok (.iload_n 1, 1) := by decide +kernel
theorem dM_code_26 : decode prog_3_method_17_code 26 = .ok (.bipush 32, 2) := by decide +kernel
theorem dM_code_28 : decode prog_3_method_17_code 28 = .ok (.isub, 1) := by decide +kernel
theorem dM_code_29 : decode prog_3_method_17_code 29 = .ok (.goto 4, 3) := by decide +kernel
theorem dM_code_32 : decode prog_3_method_17_code 32 = .ok (.iload_n 1, 1) := by decide +kernel
theorem dM_code_33 : decode prog_3_method_17_code 33 = .ok (.istore_n 2, 1) := by decide +kernel
theorem dM_code_34 : decode prog_3_method_17_code 34 = .ok (.iconst 0, 1) := by decide +kernel
theorem dM_code_35 : decode prog_3_method_17_code 35 = .ok (.istore_n 3, 1) := by decide +kernel
theorem dM_code_36 : decode prog_3_method_17_code 36 = .ok (.iconst 0, 1) := by decide +kernel
theorem dM_code_37 : decode prog_3_method_17_code 37 = .ok (.istore 4, 2) := by decide +kernel
theorem dM_code_39 : decode prog_3_method_17_code 39 = .ok (.iload 4, 2) := by decide +kernel
theorem dM_code_41 : decode prog_3_method_17_code 41 = .ok (.bipush 56, 2) := by decide +kernel
theorem dM_code_43 : decode prog_3_method_17_code 43 = .ok (.if_icmp .ge 27, 3) := by decide +kernel
theorem dM_code_46 : decode prog_3_method_17_code 46 = .ok (.aload_n 0, 1) := by decide +kernel
theorem dM_code_47 : decode prog_3_method_17_code 47 = .ok (.getfield 17, 3) := by decide +kernel
theorem dM_code_50 : decode prog_3_method_17_code 50 = .ok (.iload 4, 2) := by decide +kernel
theorem dM_code_52 : decode prog_3_method_17_code 52 = .ok (.iaload, 1) := by decide +kernel
theorem dM_code_53 : decode prog_3_method_17_code 53 = .ok (.iload_n 2, 1) := by decide +kernel
theorem dM_code_54 : decode prog_3_method_17_code 54 = .ok (.if_icmp .ne 8, 3) := by decide +kernel
theorem dM_code_57 : decode prog_3_method_17_code 57 = .ok (.iload 4, 2) := by decide +kernel
theorem dM_code_59 : decode prog_3_method_17_code 59 = .ok (.goto 4, 3) := by decide +kernel
theorem dM_code_62 : decode prog_3_method_17_code 62 = .ok (.iload_n 3, 1) := by decide +kernel
theorem dM_code_63 : decode prog_3_method_17_code 63 = .ok (.istore_n 3, 1) := by decide +kernel
theorem dM_code_64 : decode prog_3_method_17_code 64 = .ok (.iinc 4 1, 3) := by decide +kernel
theorem dM_code_67 : decode prog_3_method_17_code 67 = .ok (.goto (-28), 3) := by decide +kernel
theorem dM_code_70 : decode prog_3_method_17_code 70 = .ok (.iload_n 3, 1) := by decide +kernel
theorem dM_code_71 : decode prog_3_method_17_code 71 = .ok (.ireturn, 1) := by decide +kernel
theorem dM_init_0 : decode prog_3_method_1_code 0 = .ok (.aload_n 0, 1) := by decide +kernel
theorem dM_init_1 : decode prog_3_method_1_code 1 = .ok (.invokespecial 1, 3) := by decide +kernel
theorem dM_init_4 : decode prog_3_method_1_code 4 = .ok (.aload_n 0, 1) := by decide +kernel
theorem dM_init_5 : decode prog_3_method_1_code 5 = .ok (.bipush 16, 2) := by decide +kernel
theorem dM_init_7 : decode prog_3_method_1_code 7 = .ok (.newarray .boolean, 2) := by decide +kernel
theorem dM_init_9 : decode prog_3_method_1_code 9 = .ok (.putfield 7, 3) := by decide +kernel
theorem dM_init_12 : decode prog_3_method_1_code 12 = .ok (.aload_n 0, 1) := by decide +kernel
theorem dM_init_13 : decode prog_3_method_1_code 13 = .ok (.bipush 96, 2) := by decide +kernel
theorem dM_init_15 : decode prog_3_method_1_code 15 = .ok (.newarray .int, 2) := by decide +kernel
theorem dM_init_17 : decode prog_3_method_1_code 17 = .ok (.putfield 13, 3) := by decide +kernel
theorem dM_init_20 : decode prog_3_method_1_code 20 = .ok (.aload_n 0, 1) := by decide +kernel
theorem dM_init_21 : decode prog_3_method_1_code 21 = .ok (.bipush 56, 2) := by decide +kernel
theorem dM_init_23 : decode prog_3_method_1_code 23 = .ok (.newarray .int, 2) := by decide +kernel
theorem dM_init_25 : decode prog_3_method_1_code 25 = .ok (.dup, 1) := by decide +kernel
theorem dM_init_26 : decode prog_3_method_1_code 26 = .ok (.iconst 0, 1) := by decide +kernel
theorem dM_init_27 : decode prog_3_method_1_code 27 = .ok (.bipush 32, 2) := by decide +kernel
theorem dM_init_29 : decode prog_3_method_1_code 29 = .ok (.iastore, 1) := by decide +kernel
theorem dM_init_30 : decode prog_3_method_1_code 30 = .ok (.dup, 1) := by decide +kernel
theorem dM_init_31 : decode prog_3_method_1_code 31 = .ok (.iconst 1, 1) := by decide +kernel
theorem dM_init_32 : decode prog_3_method_1_code 32 = .ok (.bipush 65, 2) := by decide +kernel
theorem dM_init_34 : decode prog_3_method_1_code 34 = .ok (.iastore, 1) := by decide +kernel
theorem dM_init_35 : decode prog_3_method_1_code 35 = .ok (.dup, 1) := by decide +kernel
theorem dM_init_36 : decode prog_3_method_1_code 36 = .ok (.iconst 2, 1) := by decide +kernel
theorem dM_init_37 : decode prog_3_method_1_code 37 = .ok (.bipush 66, 2) := by decide +kernel
theorem dM_init_39 : decode prog_3_method_1_code 39 = .ok (.iastore, 1) := by decide +kernel
theorem dM_init_40 : decode prog_3_method_1_code 40 = .ok (.dup, 1) := by decide +kernel
theorem dM_init_41 : decode prog_3_method_1_code 41 = .ok (.iconst 3, 1) := by decide +kernel
theorem dM_init_42 : decode prog_3_method_1_code 42 = .ok (.bipush 67, 2) := by decide +kernel
theorem dM_init_44 : decode prog_3_method_1_code 44 = .ok (.iastore, 1) := by decide +kernel
theorem dM_init_45 : decode prog_3_method_1_code 45 = .ok (.dup, 1) := by decide +kernel
theorem dM_init_46 : decode prog_3_method_1_code 46 = .ok (.iconst 4, 1) := by decide +kernel
theorem dM_init_47 : decode prog_3_method_1_code 47 = .ok (.bipush 68, 2) := by decide +kernel
theorem dM_init_49 : decode prog_3_method_1_code 49 = .ok (.iastore, 1) := by decide +kernel
theorem dM_init_50 : decode prog_3_method_1_code 50 = .ok (.dup, 1) := by decide +kernel
theorem dM_init_51 : decode prog_3_method_1_code 51 = .ok (.iconst 5, 1) := by decide +kernel
theorem dM_init_52 : decode prog_3_method_1_code 52 = .ok (.bipush 69, 2) := by decide +kernel
theorem dM_init_54 : decode prog_3_method_1_code 54 = .ok (.iastore, 1) := by decide +kernel
theorem dM_init_55 : decode prog_3_method_1_code 55 = .ok (.dup, 1) := by decide +kernel
theorem dM_init_56 : decode prog_3_method_1_code 56 = .ok (.bipush 6, 2) := by decide +kernel
theorem dM_init_58 : decode prog_3_method_1_code 58 = .ok (.bipush 70, 2) := by decide +kernel
theorem dM_init_60 : decode prog_3_method_1_code 60 = .ok (.iastore, 1) := by decide +kernel
theorem dM_init_61 : decode prog_3_method_1_code 61 = .ok (.dup, 1) := by decide +kernel
theorem dM_init_62 : decode prog_3_method_1_code 62 = .ok (.bipush 7, 2) := by decide +kernel
theorem dM_init_64 : decode prog_3_method_1_code 64 = .ok (.bipush 71, 2) := by decide +kernel
theorem dM_init_66 : decode prog_3_method_1_code 66 = .ok (.iastore, 1) := by decide +kernel
theorem dM_init_67 : decode prog_3_method_1_code 67 = .ok (.dup, 1) := by decide +kernel
theorem dM_init_68 : decode prog_3_method_1_code 68 = .ok (.bipush 8, 2) := by decide +kernel
theorem dM_init_70 : decode prog_3_method_1_code 70 = .ok (.bipush 72, 2) := by decide +kernel
theorem dM_init_72 : decode prog_3_method_1_code 72 = .ok (.iastore, 1) := by decide +kernel
theorem dM_init_73 : decode prog_3_method_1_code 73 = .ok (.dup, 1) := by decide +kernel
theorem dM_init_74 : decode prog_3_method_1_code 74 = .ok (.bipush 9, 2) := by decide +kernel
theorem dM_init_76 : decode prog_3_method_1_code 76 = .ok (.bipush 73, 2) := by decide +kernel
theorem dM_init_78 : decode prog_3_method_1_code 78 = .ok (.iastore, 1) := by decide +kernel
theorem dM_init_79 : decode prog_3_method_1_code 79 = .ok (.dup, 1) := by decide +kernel
theorem dM_init_80 : decode prog_3_method_1_code 80 = .ok (.bipush 10, 2) := by decide +kernel
theorem dM_init_82 : decode prog_3_method_1_code 82 = .ok (.bipush 126, 2) := by decide +kernel
theorem dM_init_84 : decode prog_3_method_1_code 84 = .ok (.iastore, 1) := by decide +kernel
theorem dM_init_85 : decode prog_3_method_1_code 85 = .ok (.dup, 1) := by decide +kernel
theorem dM_init_86 : decode prog_3_method_1_code 86 = .ok (.bipush 11, 2) := by decide +kernel
theorem dM_init_88 : decode prog_3_method_1_code 88 = .ok (.bipush 74, 2) := by decide +kernel
theorem dM_init_90 : decode prog_3_method_1_code 90 = .ok (.iastore, 1) := by decide +kernel
theorem dM_init_91 : decode prog_3_method_1_code 91 = .ok (.dup, 1) := by decide +kernel
theorem dM_init_92 : decode prog_3_method_1_code 92 = .ok (.bipush 12, 2) := by decide +kernel
theorem dM_init_94 : decode prog_3_method_1_code 94 = .ok (.bipush 75, 2) := by decide +kernel
theorem dM_init_96 : decode prog_3_method_1_code 96 = .ok (.iastore, 1) := by decide +kernel
theorem dM_init_97 : decode prog_3_method_1_code 97 = .ok (.dup, 1) := by decide +kernel
theorem dM_init_98 : decode prog_3_method_1_code 98 = .ok (.bipush 13, 2) := by decide +kernel
theorem dM_init_100 : decode prog_3_method_1_code 100 = .ok (.bipush 76, 2) := by decide +kernel
theorem dM_init_102 : decode prog_3_method_1_code 102 = .ok (.iastore, 1) := by decide +kernel
theorem dM_init_103 : decode prog_3_method_1_code 103 = .ok (.dup, 1) := by decide +kernel
theorem dM_init_104 : decode prog_3_method_1_code 104 = .ok (.bipush 14, 2) := by decide +kernel
theorem dM_init_106 : decode prog_3_method_1_code 106 = .ok (.bipush 77, 2) := by decide +kernel
theorem dM_init_108 : decode prog_3_method_1_code 108 = .ok (.iastore, 1) := by decide +kernel
theorem dM_init_109 : decode prog_3_method_1_code 109 = .ok (.dup, 1) := by decide +kernel
theorem dM_init_110 : decode prog_3_method_1_code 110 = .ok (.bipush 15, 2) := by decide +kernel
theorem dM_init_112 : decode prog_3_method_1_code 112 = .ok (.bipush 78, 2) := by decide +kernel
theorem dM_init_114 : decode prog_3_method_1_code 114 = .ok (.iastore, 1) := by decide +kernel
theorem dM_init_115 : decode prog_3_method_1_code 115 = .ok (.dup, 1) := by decide +kernel
theorem dM_init_116 : decode prog_3_method_1_code 116 = .ok (.bipush 16, 2) := by decide +kernel
theorem dM_init_118 : decode prog_3_method_1_code 118 = .ok (.bipush 79, 2) := by decide +kernel
theorem dM_init_120 : decode prog_3_method_1_code 120 = .ok (.iastore, 1) := by decide +kernel
theorem dM_init_121 : decode prog_3_method_1_code 121 = .ok (.dup, 1) := by decide +kernel
theorem dM_init_122 : decode prog_3_method_1_code 122 = .ok (.bipush 17, 2) := by decide +kernel
theorem dM_init_124 : decode prog_3_method_1_code 124 = .ok (.bipush 80, 2) := by decide +kernel
theorem dM_init_126 : decode prog_3_method_1_code 126 = .ok (.iastore, 1) := by decide +kernel
theorem dM_init_127 : decode prog_3_method_1_code 127 = .ok (.dup, 1) := by decide +kernel
theorem dM_init_128 : decode prog_3_method_1_code 128 = .ok (.bipush 18, 2) := by decide +kernel
theorem dM_init_130 : decode prog_3_method_1_code 130 = .ok (.bipush 81, 2) := by decide +kernel
theorem dM_init_132 : decode prog_3_method_1_code 132 = .ok (.iastore, 1) := by decide +kernel
theorem dM_init_133 : decode prog_3_method_1_code 133 = .ok (.dup, 1) := by decide +kernel
theorem dM_init_134 : decode prog_3_method_1_code 134 = .ok (.bipush 19, 2) := by decide +kernel
theorem dM_init_136 : decode prog_3_method_1_code 136 = .ok (.bipush 82, 2) := by decide +kernel
theorem dM_init_138 : decode prog_3_method_1_code 138 = .ok (.iastore, 1) := by decide +kernel
theorem dM_init_139 : decode prog_3_method_1_code 139 = .ok (.dup, 1) := by decide +kernel
theorem dM_init_140 : decode prog_3_method_1_code 140 = .ok (.bipush 20, 2) := by decide +kernel
theorem dM_init_142 : decode prog_3_method_1_code 142 = .ok (.bipush 91, 2) := by decide +kernel
theorem dM_init_144 : decode prog_3_method_1_code 144 = .ok (.iastore, 1) := by decide +kernel
theorem dM_init_145 : decode prog_3_method_1_code 145 = .ok (.dup, 1) := by decide +kernel
theorem dM_init_146 : decode prog_3_method_1_code 146 = .ok (.bipush 21, 2) := by decide +kernel
theorem dM_init_148 : decode prog_3_method_1_code 148 = .ok (.bipush 35, 2) := by decide +kernel
theorem dM_init_150 : decode prog_3_method_1_code 150 = .ok (.iastore, 1) := by decide +kernel
theorem dM_init_151 : decode prog_3_method_1_code 151 = .ok (.dup, 1) := by decide +kernel
theorem dM_init_152 : decode prog_3_method_1_code 152 = .ok (.bipush 22, 2) := by decide +kernel
theorem dM_init_154 : decode prog_3_method_1_code 154 = .ok (.bipush 83, 2) := by decide +kernel
theorem dM_init_156 : decode prog_3_method_1_code 156 = .ok (.iastore, 1) := by decide +kernel
theorem dM_init_157 : decode prog_3_method_1_code 157 = .ok (.dup, 1) := by decide +kernel
theorem dM_init_158 : decode prog_3_method_1_code 158 = .ok (.bipush 23, 2) := by decide +kernel
theorem dM_init_160 : decode prog_3_method_1_code 160 = .ok (.bipush 84, 2) := by decide +kernel
theorem dM_init_162 : decode prog_3_method_1_code 162 = .ok (.iastore, 1) := by decide +kernel
theorem dM_init_163 : decode prog_3_method_1_code 163 = .ok (.dup, 1) := by decide +kernel
theorem dM_init_164 : decode prog_3_method_1_code 164 = .ok (.bipush 24, 2) := by decide +kernel
theorem dM_init_166 : decode prog_3_method_1_code 166 = .ok (.bipush 85, 2) := by decide +kernel
theorem dM_init_168 : decode prog_3_method_1_code 168 = .ok (.iastore, 1) := by decide +kernel
theorem dM_init_169 : decode prog_3_method_1_code 169 = .ok (.dup, 1) := by decide +kernel
theorem dM_init_170 : decode prog_3_method_1_code 170 = .ok (.bipush 25, 2) := by decide +kernel
theorem dM_init_172 : decode prog_3_method_1_code 172 = .ok (.bipush 86, 2) := by decide +kernel
theorem dM_init_174 : decode prog_3_method_1_code 174 = .ok (.iastore, 1) := by decide +kernel
theorem dM_init_175 : decode prog_3_method_1_code 175 = .ok (.dup, 1) := by decide +kernel
theorem dM_init_176 : decode prog_3_method_1_code 176 = .ok (.bipush 26, 2) := by decide +kernel
theorem dM_init_178 : decode prog_3_method_1_code 178 = .ok (.bipush 87, 2) := by decide +kernel
theorem dM_init_180 : decode prog_3_method_1_code 180 = .ok (.iastore, 1) := by decide +kernel
theorem dM_init_181 : decode prog_3_method_1_code 181 = .ok (.dup, 1) := by decide +kernel
theorem dM_init_182 : decode prog_3_method_1_code 182 = .ok (.bipush 27, 2) := by decide +kernel
theorem dM_init_184 : decode prog_3_method_1_code 184 = .ok (.bipush 88, 2) := by decide +kernel
theorem dM_init_186 : decode prog_3_method_1_code 186 = .ok (.iastore, 1) := by decide +kernel
theorem dM_init_187 : decode prog_3_method_1_code 187 = .ok (.dup, 1) := by decide +kernel
theorem dM_init_188 : decode prog_3_method_1_code 188 = .ok (.bipush 28, 2) := by decide +kernel
theorem dM_init_190 : decode prog_3_method_1_code 190 = .ok (.bipush 89, 2) := by decide +kernel
theorem dM_init_192 : decode prog_3_method_1_code 192 = .ok (.iastore, 1) := by decide +kernel
theorem dM_init_193 : decode prog_3_method_1_code 193 = .ok (.dup, 1) := by decide +kernel
theorem dM_init_194 : decode prog_3_method_1_code 194 = .ok (.bipush 29, 2) := by decide +kernel
theorem dM_init_196 : decode prog_3_method_1_code 196 = .ok (.bipush 90, 2) := by decide +kernel
theorem dM_init_198 : decode prog_3_method_1_code 198 = .ok (.iastore, 1) := by decide +kernel
theorem dM_init_199 : decode prog_3_method_1_code 199 = .ok (.dup, 1) := by decide +kernel
theorem dM_init_200 : decode prog_3_method_1_code 200 = .ok (.bipush 30, 2) := by decide +kernel
theorem dM_init_202 : decode prog_3_method_1_code 202 = .ok (.bipush 48, 2) := by decide +kernel
theorem dM_init_204 : decode prog_3_method_1_code 204 = .ok (.iastore, 1) := by decide +kernel
theorem dM_init_205 : decode prog_3_method_1_code 205 = .ok (.dup, 1) := by decide +kernel
theorem dM_init_206 : decode prog_3_method_1_code 206 = .ok (.bipush 31, 2) := by decide +kernel
theorem dM_init_208 : decode prog_3_method_1_code 208 = .ok (.bipush 49, 2) := by decide +kernel
theorem dM_init_210 : decode prog_3_method_1_code 210 = .ok (.iastore, 1) := by decide +kernel
theorem dM_init_211 : decode prog_3_method_1_code 211 = .ok (.dup, 1) := by decide +kernel
theorem dM_init_212 : decode prog_3_method_1_code 212 = .ok (.bipush 32, 2) := by decide +kernel
theorem dM_init_214 : decode prog_3_method_1_code 214 = .ok (.bipush 50, 2) := by decide +kernel
theorem dM_init_216 : decode prog_3_method_1_code 216 = .ok (.iastore, 1) := by decide +kernel
theorem dM_init_217 : decode prog_3_method_1_code 217 = .ok (.dup, 1) := by decide +kernel
theorem dM_init_218 : decode prog_3_method_1_code 218 = .ok (.bipush 33, 2) := by decide +kernel
theorem dM_init_220 : decode prog_3_method_1_code 220 = .ok (.bipush 51, 2) := by decide +kernel
theorem dM_init_222 : decode prog_3_method_1_code 222 = .ok (.iastore, 1) := by decide +kernel
theorem dM_init_223 : decode prog_3_method_1_code 223 = .ok (.dup, 1) := by decide +kernel
theorem dM_init_224 : decode prog_3_method_1_code 224 = .ok (.bipush 34, 2) := by decide +kernel
theorem dM_init_226 : decode prog_3_method_1_code 226 = .ok (.bipush 52, 2) := by decide +kernel
theorem dM_init_228 : decode prog_3_method_1_code 228 = .ok (.iastore, 1) := by decide +kernel
theorem dM_init_229 : decode prog_3_method_1_code 229 = .ok (.dup, 1) := by decide +kernel
theorem dM_init_230 : decode prog_3_method_1_code 230 = .ok (.bipush 35, 2) := by decide +kernel
theorem dM_init_232 : decode prog_3_method_1_code 232 = .ok (.bipush 53, 2) := by decide +kernel
theorem dM_init_234 : decode prog_3_method_1_code 234 = .ok (.iastore, 1) := by decide +kernel
theorem dM_init_235 : decode prog_3_method_1_code 235 = .ok (.dup, 1) := by decide +kernel
theorem dM_init_236 : decode prog_3_method_1_code 236 = .ok (.bipush 36, 2) := by decide +kernel
theorem dM_init_238 : decode prog_3_method_1_code 238 = .ok (.bipush 54, 2) := by decide +kernel
theorem dM_init_240 : decode prog_3_method_1_code 240 = .ok (.iastore, 1) := by decide +kernel
theorem dM_init_241 : decode prog_3_method_1_code 241 = .ok (.dup, 1) := by decide +kernel
theorem dM_init_242 : decode prog_3_method_1_code 242 = .ok (.bipush 37, 2) := by decide +kernel
theorem dM_init_244 : decode prog_3_method_1_code 244 = .ok (.bipush 55, 2) := by decide +kernel
theorem dM_init_246 : decode prog_3_method_1_code 246 = .ok (.iastore, 1) := by decide +kernel
theorem dM_init_247 : decode prog_3_method_1_code 247 = .ok (.dup, 1) := by decide +kernel
theorem dM_init_248 : decode prog_3_method_1_code 248 = .ok (.bipush 38, 2) := by decide +kernel
theorem dM_init_250 : decode prog_3_method_1_code 250 = .ok (.bipush 56, 2) := by decide +kernel
theorem dM_init_252 : decode prog_3_method_1_code 252 = .ok (.iastore, 1) := by decide +kernel
theorem dM_init_253 : decode prog_3_method_1_code 253 = .ok (.dup, 1) := by decide +kernel
theorem dM_init_254 : decode prog_3_method_1_code 254 = .ok (.bipush 39, 2) := by decide +kernel
theorem dM_init_256 : decode prog_3_method_1_code 256 = .ok (.bipush 57, 2) := by decide +kernel
theorem dM_init_258 : decode prog_3_method_1_code 258 = .ok (.iastore, 1) := by decide +kernel
theorem dM_init_259 : decode prog_3_method_1_code 259 = .ok (.dup, 1) := by decide +kernel
theorem dM_init_260 : decode prog_3_method_1_code 260 = .ok (.bipush 40, 2) := by decide +kernel
theorem dM_init_262 : decode prog_3_method_1_code 262 = .ok (.bipush 46, 2) := by decide +kernel
theorem dM_init_264 : decode prog_3_method_1_code 264 = .ok (.iastore, 1) := by decide +kernel
theorem dM_init_265 : decode prog_3_method_1_code 265 = .ok (.dup, 1) := by decide +kernel
theorem dM_init_266 : decode prog_3_method_1_code 266 = .ok (.bipush 41, 2) := by decide +kernel
theorem dM_init_268 : decode prog_3_method_1_code 268 = .ok (.bipush 44, 2) := by decide +kernel
theorem dM_init_270 : decode prog_3_method_1_code 270 = .ok (.iastore, 1) := by decide +kernel
theorem dM_init_271 : decode prog_3_method_1_code 271 = .ok (.dup, 1) := by decide +kernel
theorem dM_init_272 : decode prog_3_method_1_code 272 = .ok (.bipush 42, 2) := by decide +kernel
theorem dM_init_274 : decode prog_3_method_1_code 274 = .ok (.bipush 40, 2) := by decide +kernel
theorem dM_init_276 : decode prog_3_method_1_code 276 = .ok (.iastore, 1) := by decide +kernel
theorem dM_init_277 : decode prog_3_method_1_code 277 = .ok (.dup, 1) := by decide +kernel
theorem dM_init_278 : decode prog_3_method_1_code 278 = .ok (.bipush 43, 2) := by decide +kernel
theorem dM_init_280 : decode prog_3_method_1_code 280 = .ok (.bipush 41, 2) := by decide +kernel
theorem dM_init_282 : decode prog_3_method_1_code 282 = .ok (.iastore, 1) := by decide +kernel
theorem dM_init_283 : decode prog_3_method_1_code 283 = .ok (.dup, 1) := by decide +kernel
theorem dM_init_284 : decode prog_3_method_1_code 284 = .ok (.bipush 44, 2) := by decide +kernel
theorem dM_init_286 : decode prog_3_method_1_code 286 = .ok (.bipush 43, 2) := by decide +kernel
theorem dM_init_288 : decode prog_3_method_1_code 288 = .ok (.iastore, 1) := by decide +kernel
theorem dM_init_289 : decode prog_3_method_1_code 289 = .ok (.dup, 1) := by decide +kernel
theorem dM_init_290 : decode prog_3_method_1_code 290 = .ok (.bipush 45, 2) := by decide +kernel
theorem dM_init_292 : decode prog_3_method_1_code 292 = .ok (.bipush 45, 2) := by decide +kernel
theorem dM_init_294 : decode prog_3_method_1_code 294 = .ok (.iastore, 1) := by decide +kernel
theorem dM_init_295 : decode prog_3_method_1_code 295 = .ok (.dup, 1) := by decide +kernel
theorem dM_init_296 : decode prog_3_method_1_code 296 = .ok (.bipush 46, 2) := by decide +kernel
theorem dM_init_298 : decode prog_3_method_1_code 298 = .ok (.bipush 42, 2) := by decide +kernel
theorem dM_init_300 : decode prog_3_method_1_code 300 = .ok (.iastore, 1) := by decide +kernel
theorem dM_init_301 : decode prog_3_method_1_code 301 = .ok (.dup, 1) := by decide +kernel
theorem dM_init_302 : decode prog_3_method_1_code 302 = .ok (.bipush 47, 2) := by decide +kernel
theorem dM_init_304 : decode prog_3_method_1_code 304 = .ok (.bipush 47, 2) := by decide +kernel
theorem dM_init_306 : decode prog_3_method_1_code 306 = .ok (.iastore, 1) := by decide +kernel
theorem dM_init_307 : decode prog_3_method_1_code 307 = .ok (.dup, 1) := by decide +kernel
theorem dM_init_308 : decode prog_3_method_1_code 308 = .ok (.bipush 48, 2) := by decide +kernel
theorem dM_init_310 : decode prog_3_method_1_code 310 = .ok (.bipush 61, 2) := by decide +kernel
theorem dM_init_312 : decode prog_3_method_1_code 312 = .ok (.iastore, 1) := by decide +kernel
theorem dM_init_313 : decode prog_3_method_1_code 313 = .ok (.dup, 1) := by decide +kernel
theorem dM_init_314 : decode prog_3_method_1_code 314 = .ok (.bipush 49, 2) := by decide +kernel
theorem dM_init_316 : decode prog_3_method_1_code 316 = .ok (.bipush 36, 2) := by decide +kernel
theorem dM_init_318 : decode prog_3_method_1_code 318 = .ok (.iastore, 1) := by decide +kernel
theorem dM_init_319 : decode prog_3_method_1_code 319 = .ok (.dup, 1) := by decide +kernel
theorem dM_init_320 : decode prog_3_method_1_code 320 = .ok (.bipush 50, 2) := by decide +kernel
theorem dM_init_322 : decode prog_3_method_1_code 322 = .ok (.bipush 60, 2) := by decide +kernel
theorem dM_init_324 : decode prog_3_method_1_code 324 = .ok (.iastore, 1) := by decide +kernel
theorem dM_init_325 : decode prog_3_method_1_code 325 = .ok (.dup, 1) := by decide +kernel
theorem dM_init_326 : decode prog_3_method_1_code 326 = .ok (.bipush 51, 2) := by decide +kernel
theorem dM_init_328 : decode prog_3_method_1_code 328 = .ok (.bipush 62, 2) := by decide +kernel
theorem dM_init_330 : decode prog_3_method_1_code 330 = .ok (.iastore, 1) := by decide +kernel
theorem dM_init_331 : decode prog_3_method_1_code 331 = .ok (.dup, 1) := by decide +kernel
theorem dM_init_332 : decode prog_3_method_1_code 332 = .ok (.bipush 52, 2) := by decide +kernel
theorem dM_init_334 : decode prog_3_method_1_code 334 = .ok (.bipush 64, 2) := by decide +kernel
theorem dM_init_336 : decode prog_3_method_1_code 336 = .ok (.iastore, 1) := by decide +kernel
theorem dM_init_337 : decode prog_3_method_1_code 337 = .ok (.dup, 1) := by decide +kernel
theorem dM_init_338 : decode prog_3_method_1_code 338 = .ok (.bipush 53, 2) := by decide +kernel
theorem dM_init_340 : decode prog_3_method_1_code 340 = .ok (.bipush 59, 2) := by decide +kernel
theorem dM_init_342 : decode prog_3_method_1_code 342 = .ok (.iastore, 1) := by decide +kernel
theorem dM_init_343 : decode prog_3_method_1_code 343 = .ok (.dup, 1) := by decide +kernel
theorem dM_init_344 : decode prog_3_method_1_code 344 = .ok (.bipush 54, 2) := by decide +kernel
theorem dM_init_346 : decode prog_3_method_1_code 346 = .ok (.bipush 58, 2) := by decide +kernel
theorem dM_init_348 : decode prog_3_method_1_code 348 = .ok (.iastore, 1) := by decide +kernel
theorem dM_init_349 : decode prog_3_method_1_code 349 = .ok (.dup, 1) := by decide +kernel
theorem dM_init_350 : decode prog_3_method_1_code 350 = .ok (.bipush 55, 2) := by decide +kernel
theorem dM_init_352 : decode prog_3_method_1_code 352 = .ok (.bipush 39, 2) := by decide +kernel
theorem dM_init_354 : decode prog_3_method_1_code 354 = .ok (.iastore, 1) := by decide +kernel
theorem dM_init_355 : decode prog_3_method_1_code 355 = .ok (.putfield 17, 3) := by decide +kernel
theorem dM_init_358 : decode prog_3_method_1_code 358 = .ok (.aload_n 0, 1) := by decide +kernel
theorem dM_init_359 : decode prog_3_method_1_code 359 = .ok (.bipush 6, 2) := by decide +kernel
theorem dM_init_361 : decode prog_3_method_1_code 361 = .ok (.newarray .int, 2) := by decide +kernel
theorem dM_init_363 : decode prog_3_method_1_code 363 = .ok (.putfield 20, 3) := by decide +kernel
theorem dM_init_366 : decode prog_3_method_1_code 366 = .ok (.return_, 1) := by decide +kernel
