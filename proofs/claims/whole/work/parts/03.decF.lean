theorem dF_isRegister_0 : decode prog_1_method_12_code 0 = .ok (.iload_n 0, 1) := by decide +kernel
theorem dF_isRegister_1 : decode prog_1_method_12_code 1 = .ok (.ifCond .lt 13, 3) := by decide +kernel
theorem dF_isRegister_4 : decode prog_1_method_12_code 4 = .ok (.iload_n 0, 1) := by decide +kernel
theorem dF_isRegister_5 : decode prog_1_method_12_code 5 = .ok (.bipush 16, 2) := by decide +kernel
theorem dF_isRegister_7 : decode prog_1_method_12_code 7 = .ok (.if_icmp .ge 7, 3) := by decide +kernel
theorem dF_isRegister_10 : decode prog_1_method_12_code 10 = .ok (.iconst 1, 1) := by decide +kernel
theorem dF_isRegister_11 : decode prog_1_method_12_code 11 = .ok (.goto 4, 3) := by decide +kernel
theorem dF_isRegister_14 : decode prog_1_method_12_code 14 = .ok (.iconst 0, 1) := by decide +kernel
theorem dF_isRegister_15 : decode prog_1_method_12_code 15 = .ok (.ireturn, 1) := by decide +kernel
theorem dF_isMinus_0 : decode prog_1_method_13_code 0 = .ok (.iload_n 0, 1) := by decide +kernel
theorem dF_isMinus_1 : decode prog_1_method_13_code 1 = .ok (.ldc 19, 2) := by decide +kernel
theorem dF_isMinus_3 : decode prog_1_method_13_code 3 = .ok (.iand, 1) := by decide +kernel
theorem dF_isMinus_4 : decode prog_1_method_13_code 4 = .ok (.ifCond .eq 7, 3) := by decide +kernel
theorem dF_isMinus_7 : decode prog_1_method_13_code 7 = .ok (.iconst 1, 1) := by decide +kernel
theorem dF_isMinus_8 : decode prog_1_method_13_code 8 = .ok (.goto 4, 3) := by decide +kernel
theorem dF_isMinus_11 : decode prog_1_method_13_code 11 = .ok (.iconst 0, 1) := by decide +kernel
theorem dF_isMinus_12 : decode prog_1_method_13_code 12 = .ok (.ireturn, 1) := by decide +kernel
theorem dF_number_0 : decode prog_1_method_14_code 0 = .ok (.iload_n 0, 1) := by decide +kernel
theorem dF_number_1 : decode prog_1_method_14_code 1 = .ok (.ldc 17, 2) := by decide +kernel
theorem dF_number_3 : decode prog_1_method_14_code 3 = .ok (.iand, 1) := by decide +kernel
theorem dF_number_4 : decode prog_1_method_14_code 4 = .ok (.istore_n 1, 1) := by decide +kernel
theorem dF_number_5 : decode prog_1_method_14_code 5 = .ok (.iload_n 0, 1) := by decide +kernel
theorem dF_number_6 : decode prog_1_method_14_code 6 = .ok (.invokestatic 26, 3) := by decide +kernel
theorem dF_number_9 : decode prog_1_method_14_code 9 = .ok (.ifCond .eq 8, 3) := by decide +kernel
theorem dF_number_12 : decode prog_1_method_14_code 12 = .ok (.iload_n 1, 1) := by decide +kernel
theorem dF_number_13 : decode prog_1_method_14_code 13 = .ok (.ineg, 1) := by decide +kernel
theorem dF_number_14 : decode prog_1_method_14_code 14 = .ok (.goto 4, 3) := by decide +kernel
theorem dF_number_17 : decode prog_1_method_14_code 17 = .ok (.iload_n 1, 1) := by decide +kernel
theorem dF_number_18 : decode prog_1_method_14_code 18 = .ok (.ireturn, 1) := by decide +kernel
theorem dF_firstByte_0 : decode prog_1_method_15_code 0 = .ok (.iload_n 0, 1) := by decide +kernel
theorem dF_firstByte_1 : decode prog_1_method_15_code 1 = .ok (.iconst 3, 1) := by decide +kernel
theorem dF_firstByte_2 : decode prog_1_method_15_code 2 = .ok (.ishr, 1) := by decide +kernel
theorem dF_firstByte_3 : decode prog_1_method_15_code 3 = .ok (.ireturn, 1) := by decide +kernel
theorem dF_lastByte_0 : decode prog_1_method_16_code 0 = .ok (.iload_n 0, 1) := by decide +kernel
theorem dF_lastByte_1 : decode prog_1_method_16_code 1 = .ok (.bipush 7, 2) := by decide +kernel
theorem dF_lastByte_3 : decode prog_1_method_16_code 3 = .ok (.iand, 1) := by decide +kernel
theorem dF_lastByte_4 : decode prog_1_method_16_code 4 = .ok (.ireturn, 1) := by decide +kernel
theorem dF_bitsRightOf_0 : decode prog_1_method_17_code 0 = .ok (.bipush 6, 2) := by decide +kernel
theorem dF_bitsRightOf_2 : decode prog_1_method_17_code 2 = .ok (.iconst 5, 1) := by decide +kernel
theorem dF_bitsRightOf_3 : decode prog_1_method_17_code 3 = .ok (.iload_n 0, 1) := by decide +kernel
theorem dF_bitsRightOf_4 : decode prog_1_method_17_code 4 = .ok (.isub, 1) := by decide +kernel
theorem dF_bitsRightOf_5 : decode prog_1_method_17_code 5 = .ok (.imul, 1) := by decide +kernel
theorem dF_bitsRightOf_6 : decode prog_1_method_17_code 6 = .ok (.ireturn, 1) := by decide +kernel
theorem dF_rightMask_0 : decode prog_1_method_18_code 0 = .ok (.iload_n 0, 1) := by decide +kernel
theorem dF_rightMask_1 : decode prog_1_method_18_code 1 = .ok (.invokestatic 42, 3) := by decide +kernel
theorem dF_rightMask_4 : decode prog_1_method_18_code 4 = .ok (.iload_n 0, 1) := by decide +kernel
theorem dF_rightMask_5 : decode prog_1_method_18_code 5 = .ok (.invokestatic 48, 3) := by decide +kernel
theorem dF_rightMask_8 : decode prog_1_method_18_code 8 = .ok (.iconst 1, 1) := by decide +kernel
theorem dF_rightMask_9 : decode prog_1_method_18_code 9 = .ok (.invokestatic 69, 3) := by decide +kernel
theorem dF_rightMask_12 : decode prog_1_method_18_code 12 = .ok (.isub, 1) := by decide +kernel
theorem dF_rightMask_13 : decode prog_1_method_18_code 13 = .ok (.iconst 1, 1) := by decide +kernel
theorem dF_rightMask_14 : decode prog_1_method_18_code 14 = .ok (.iadd, 1) := by decide +kernel
theorem dF_rightMask_15 : decode prog_1_method_18_code 15 = .ok (.istore_n 1, 1) := by decide +kernel
theorem dF_rightMask_16 : decode prog_1_method_18_code 16 = .ok (.iconst 1, 1) := by decide +kernel
theorem dF_rightMask_17 : decode prog_1_method_18_code 17 = .ok (.bipush 6, 2) := by decide +kernel
theorem dF_rightMask_19 : decode prog_1_method_18_code 19 = .ok (.iload_n 1, 1) := by decide +kernel
theorem dF_rightMask_20 : decode prog_1_method_18_code 20 = .ok (.imul, 1) := by decide +kernel
theorem dF_rightMask_21 : decode prog_1_method_18_code 21 = .ok (.ishl, 1) := by decide +kernel
theorem dF_rightMask_22 : decode prog_1_method_18_code 22 = .ok (.iconst 1, 1) := by decide +kernel
theorem dF_rightMask_23 : decode prog_1_method_18_code 23 = .ok (.isub, 1) := by decide +kernel
theorem dF_rightMask_24 : decode prog_1_method_18_code 24 = .ok (.ireturn, 1) := by decide +kernel
theorem dF_signMask_0 : decode prog_1_method_19_code 0 = .ok (.iload_n 0, 1) := by decide +kernel
theorem dF_signMask_1 : decode prog_1_method_19_code 1 = .ok (.invokestatic 48, 3) := by decide +kernel
theorem dF_signMask_4 : decode prog_1_method_19_code 4 = .ok (.ifCond .ne 8, 3) := by decide +kernel
theorem dF_signMask_7 : decode prog_1_method_19_code 7 = .ok (.ldc 19, 2) := by decide +kernel
theorem dF_signMask_9 : decode prog_1_method_19_code 9 = .ok (.goto 4, 3) := by decide +kernel
theorem dF_signMask_12 : decode prog_1_method_19_code 12 = .ok (.iconst 0, 1) := by decide +kernel
theorem dF_signMask_13 : decode prog_1_method_19_code 13 = .ok (.ireturn, 1) := by decide +kernel
theorem dF_fieldOf_0 : decode prog_1_method_20_code 0 = .ok (.iload_n 0, 1) := by decide +kernel
theorem dF_fieldOf_1 : decode prog_1_method_20_code 1 = .ok (.iload_n 1, 1) := by decide +kernel
theorem dF_fieldOf_2 : decode prog_1_method_20_code 2 = .ok (.invokestatic 42, 3) := by decide +kernel
theorem dF_fieldOf_5 : decode prog_1_method_20_code 5 = .ok (.invokestatic 29, 3) := by decide +kernel
theorem dF_fieldOf_8 : decode prog_1_method_20_code 8 = .ok (.ishr, 1) := by decide +kernel
theorem dF_fieldOf_9 : decode prog_1_method_20_code 9 = .ok (.iload_n 1, 1) := by decide +kernel
theorem dF_fieldOf_10 : decode prog_1_method_20_code 10 = .ok (.invokestatic 39, 3) := by decide +kernel
theorem dF_fieldOf_13 : decode prog_1_method_20_code 13 = .ok (.iand, 1) := by decide +kernel
theorem dF_fieldOf_14 : decode prog_1_method_20_code 14 = .ok (.istore_n 2, 1) := by decide +kernel
theorem dF_fieldOf_15 : decode prog_1_method_20_code 15 = .ok (.iload_n 2, 1) := by decide +kernel
theorem dF_fieldOf_16 : decode prog_1_method_20_code 16 = .ok (.iload_n 0, 1) := by decide +kernel
theorem dF_fieldOf_17 : decode prog_1_method_20_code 17 = .ok (.iload_n 1, 1) := by decide +kernel
theorem dF_fieldOf_18 : decode prog_1_method_20_code 18 = .ok (.invokestatic 45, 3) := by decide +kernel
theorem dF_fieldOf_21 : decode prog_1_method_20_code 21 = .ok (.iand, 1) := by decide +kernel
theorem dF_fieldOf_22 : decode prog_1_method_20_code 22 = .ok (.ior, 1) := by decide +kernel
theorem dF_fieldOf_23 : decode prog_1_method_20_code 23 = .ok (.ireturn, 1) := by decide +kernel
theorem dF_greatLetter_0 : decode prog_1_method_21_code 0 = .ok (.iload_n 0, 1) := by decide +kernel
theorem dF_greatLetter_1 : decode prog_1_method_21_code 1 = .ok (.bipush 97, 2) := by decide +kernel
theorem dF_greatLetter_3 : decode prog_1_method_21_code 3 = .ok (.if_icmp .lt 19, 3) := by decide +kernel
theorem dF_greatLetter_6 : decode prog_1_method_21_code 6 = .ok (.iload_n 0, 1) := by decide +kernel
theorem dF_greatLetter_7 : decode prog_1_method_21_code 7 = .ok (.bipush 122, 2) := by decide +kernel
theorem dF_greatLetter_9 : decode prog_1_method_21_code 9 = .ok (.if_icmp .gt 13, 3) := by decide +kernel
theorem dF_greatLetter_12 : decode prog_1_method_21_code 12 = .ok (.iload_n 0, 1) := by decide +kernel
theorem dF_greatLetter_13 : decode prog_1_method_21_code 13 = .ok (.bipush 97, 2) := by decide +kernel
theorem dF_greatLetter_15 : decode prog_1_method_21_code 15 = .ok (.isub, 1) := by decide +kernel
theorem dF_greatLetter_16 : decode prog_1_method_21_code 16 = .ok (.bipush 65, 2) := by decide +kernel
theorem dF_greatLetter_18 : decode prog_1_method_21_code 18 = .ok (.iadd, 1) := by decide +kernel
theorem dF_greatLetter_19 : decode prog_1_method_21_code 19 = .ok (.goto 4, 3) := by decide +kernel
theorem dF_greatLetter_22 : decode prog_1_method_21_code 22 = .ok (.iload_n 0, 1) := by decide +kernel
theorem dF_greatLetter_23 : decode prog_1_method_21_code 23 = .ok (.ireturn, 1) := by decide +kernel
theorem dF_isField_0 : decode prog_1_method_9_code 0 = .ok (.iload_n 1, 1) := by decide +kernel
theorem dF_isField_1 : decode prog_1_method_9_code 1 = .ok (.ifCond .lt 26, 3) := by decide +kernel
theorem dF_isField_4 : decode prog_1_method_9_code 4 = .ok (.iload_n 1, 1) := by decide +kernel
theorem dF_isField_5 : decode prog_1_method_9_code 5 = .ok (.invokestatic 48, 3) := by decide +kernel
theorem dF_isField_8 : decode prog_1_method_9_code 8 = .ok (.iload_n 1, 1) := by decide +kernel
theorem dF_isField_9 : decode prog_1_method_9_code 9 = .ok (.invokestatic 42, 3) := by decide +kernel
theorem dF_isField_12 : decode prog_1_method_9_code 12 = .ok (.if_icmp .gt 15, 3) := by decide +kernel
theorem dF_isField_15 : decode prog_1_method_9_code 15 = .ok (.iload_n 1, 1) := by decide +kernel
theorem dF_isField_16 : decode prog_1_method_9_code 16 = .ok (.invokestatic 42, 3) := by decide +kernel
theorem dF_isField_19 : decode prog_1_method_9_code 19 = .ok (.iconst 5, 1) := by decide +kernel
theorem dF_isField_20 : decode prog_1_method_9_code 20 = .ok (.if_icmp .gt 7, 3) := by decide +kernel
theorem dF_isField_23 : decode prog_1_method_9_code 23 = .ok (.iconst 1, 1) := by decide +kernel
theorem dF_isField_24 : decode prog_1_method_9_code 24 = .ok (.goto 4, 3) := by decide +kernel
theorem dF_isField_27 : decode prog_1_method_9_code 27 = .ok (.iconst 0, 1) := by decide +kernel
theorem dF_isField_28 : decode prog_1_method_9_code 28 = .ok (.ireturn, 1) := by decide +kernel
theorem dF_value_0 : decode prog_1_method_3_code 0 = .ok (.iload_n 1, 1) := by decide +kernel
theorem dF_value_1 : decode prog_1_method_3_code 1 = .ok (.invokestatic 13, 3) := by decide +kernel
theorem dF_value_4 : decode prog_1_method_3_code 4 = .ok (.ifCond .ne 6, 3) := by decide +kernel
theorem dF_value_7 : decode prog_1_method_3_code 7 = .ok (.ldc 20, 2) := by decide +kernel
theorem dF_value_9 : decode prog_1_method_3_code 9 = .ok (.ireturn, 1) := by decide +kernel
theorem dF_value_10 : decode prog_1_method_3_code 10 = .ok (.aload_n 0, 1) := by decide +kernel
theorem dF_value_11 : decode prog_1_method_3_code 11 = .ok (.getfield 9, 3) := by decide +kernel
theorem dF_value_14 : decode prog_1_method_3_code 14 = .ok (.iload_n 1, 1) := by decide +kernel
theorem dF_value_15 : decode prog_1_method_3_code 15 = .ok (.iaload, 1) := by decide +kernel
theorem dF_value_16 : decode prog_1_method_3_code 16 = .ok (.istore_n 2, 1) := by decide +kernel
theorem dF_value_17 : decode prog_1_method_3_code 17 = .ok (.iload_n 2, 1) := by decide +kernel
theorem dF_value_18 : decode prog_1_method_3_code 18 = .ok (.ldc 19, 2) := by decide +kernel
theorem dF_value_20 : decode prog_1_method_3_code 20 = .ok (.if_icmp .ne 8, 3) := by decide +kernel
theorem dF_value_23 : decode prog_1_method_3_code 23 = .ok (.ldc 21, 2) := by decide +kernel
theorem dF_value_25 : decode prog_1_method_3_code 25 = .ok (.goto 7, 3) := by decide +kernel
theorem dF_value_28 : decode prog_1_method_3_code 28 = .ok (.iload_n 2, 1) := by decide +kernel
theorem dF_value_29 : decode prog_1_method_3_code 29 = .ok (.invokestatic 22, 3) := by decide +kernel
theorem dF_value_32 : decode prog_1_method_3_code 32 = .ok (.ireturn, 1) := by decide +kernel
theorem dF_byteOf_0 : decode prog_1_method_4_code 0 = .ok (.iload_n 1, 1) := by decide +kernel
theorem dF_byteOf_1 : decode prog_1_method_4_code 1 = .ok (.invokestatic 13, 3) := by decide +kernel
theorem dF_byteOf_4 : decode prog_1_method_4_code 4 = .ok (.ifCond .eq 12, 3) := by decide +kernel
theorem dF_byteOf_7 : decode prog_1_method_4_code 7 = .ok (.iload_n 2, 1) := by decide +kernel
theorem dF_byteOf_8 : decode prog_1_method_4_code 8 = .ok (.ifCond .lt 8, 3) := by decide +kernel
theorem dF_byteOf_11 : decode prog_1_method_4_code 11 = .ok (.iload_n 2, 1) := by decide +kernel
theorem dF_byteOf_12 : decode prog_1_method_4_code 12 = .ok (.iconst 5, 1) := by decide +kernel
theorem dF_byteOf_13 : decode prog_1_method_4_code 13 = .ok (.if_icmp .le 5, 3) := by decide +kernel
theorem dF_byteOf_16 : decode prog_1_method_4_code 16 = .ok (.iconst (-1), 1) := by decide +kernel
theorem dF_byteOf_17 : decode prog_1_method_4_code 17 = .ok (.ireturn, 1) := by decide +kernel
theorem dF_byteOf_18 : decode prog_1_method_4_code 18 = .ok (.aload_n 0, 1) := by decide +kernel
theorem dF_byteOf_19 : decode prog_1_method_4_code 19 = .ok (.getfield 9, 3) := by decide +kernel
theorem dF_byteOf_22 : decode prog_1_method_4_code 22 = .ok (.iload_n 1, 1) := by decide +kernel
theorem dF_byteOf_23 : decode prog_1_method_4_code 23 = .ok (.iaload, 1) := by decide +kernel
theorem dF_byteOf_24 : decode prog_1_method_4_code 24 = .ok (.istore_n 3, 1) := by decide +kernel
theorem dF_byteOf_25 : decode prog_1_method_4_code 25 = .ok (.iload_n 2, 1) := by decide +kernel
theorem dF_byteOf_26 : decode prog_1_method_4_code 26 = .ok (.ifCond .ne 16, 3) := by decide +kernel
theorem dF_byteOf_29 : decode prog_1_method_4_code 29 = .ok (.iload_n 3, 1) := by decide +kernel
theorem dF_byteOf_30 : decode prog_1_method_4_code 30 = .ok (.invokestatic 26, 3) := by decide +kernel
theorem dF_byteOf_33 : decode prog_1_method_4_code 33 = .ok (.ifCond .eq 7, 3) := by decide +kernel
theorem dF_byteOf_36 : decode prog_1_method_4_code 36 = .ok (.iconst 1, 1) := by decide +kernel
theorem dF_byteOf_37 : decode prog_1_method_4_code 37 = .ok (.goto 4, 3) := by decide +kernel
theorem dF_byteOf_40 : decode prog_1_method_4_code 40 = .ok (.iconst 0, 1) := by decide +kernel
theorem dF_byteOf_41 : decode prog_1_method_4_code 41 = .ok (.ireturn, 1) := by decide +kernel
theorem dF_byteOf_42 : decode prog_1_method_4_code 42 = .ok (.iload_n 3, 1) := by decide +kernel
theorem dF_byteOf_43 : decode prog_1_method_4_code 43 = .ok (.iload_n 2, 1) := by decide +kernel
theorem dF_byteOf_44 : decode prog_1_method_4_code 44 = .ok (.invokestatic 29, 3) := by decide +kernel
theorem dF_byteOf_47 : decode prog_1_method_4_code 47 = .ok (.ishr, 1) := by decide +kernel
theorem dF_byteOf_48 : decode prog_1_method_4_code 48 = .ok (.bipush 63, 2) := by decide +kernel
theorem dF_byteOf_50 : decode prog_1_method_4_code 50 = .ok (.iand, 1) := by decide +kernel
theorem dF_byteOf_51 : decode prog_1_method_4_code 51 = .ok (.ireturn, 1) := by decide +kernel
theorem dF_compare_0 : decode prog_1_method_8_code 0 = .ok (.iload_n 1, 1) := by decide +kernel
theorem dF_compare_1 : decode prog_1_method_8_code 1 = .ok (.invokestatic 13, 3) := by decide +kernel
theorem dF_compare_4 : decode prog_1_method_8_code 4 = .ok (.ifCond .eq 18, 3) := by decide +kernel
theorem dF_compare_7 : decode prog_1_method_8_code 7 = .ok (.iload_n 2, 1) := by decide +kernel
theorem dF_compare_8 : decode prog_1_method_8_code 8 = .ok (.invokestatic 13, 3) := by decide +kernel
theorem dF_compare_11 : decode prog_1_method_8_code 11 = .ok (.ifCond .eq 11, 3) := by decide +kernel
theorem dF_compare_14 : decode prog_1_method_8_code 14 = .ok (.aload_n 0, 1) := by decide +kernel
theorem dF_compare_15 : decode prog_1_method_8_code 15 = .ok (.iload_n 3, 1) := by decide +kernel
theorem dF_compare_16 : decode prog_1_method_8_code 16 = .ok (.invokevirtual 32, 3) := by decide +kernel
theorem dF_compare_19 : decode prog_1_method_8_code 19 = .ok (.ifCond .ne 6, 3) := by decide +kernel
theorem dF_compare_22 : decode prog_1_method_8_code 22 = .ok (.bipush (-2), 2) := by decide +kernel
theorem dF_compare_24 : decode prog_1_method_8_code 24 = .ok (.ireturn, 1) := by decide +kernel
theorem dF_compare_25 : decode prog_1_method_8_code 25 = .ok (.aload_n 0, 1) := by decide +kernel
theorem dF_compare_26 : decode prog_1_method_8_code 26 = .ok (.getfield 9, 3) := by decide +kernel
theorem dF_compare_29 : decode prog_1_method_8_code 29 = .ok (.iload_n 1, 1) := by decide +kernel
theorem dF_compare_30 : decode prog_1_method_8_code 30 = .ok (.iaload, 1) := by decide +kernel
theorem dF_compare_31 : decode prog_1_method_8_code 31 = .ok (.iload_n 3, 1) := by decide +kernel
theorem dF_compare_32 : decode prog_1_method_8_code 32 = .ok (.invokestatic 35, 3) := by decide +kernel
theorem dF_compare_35 : decode prog_1_method_8_code 35 = .ok (.invokestatic 22, 3) := by decide +kernel
theorem dF_compare_38 : decode prog_1_method_8_code 38 = .ok (.istore 4, 2) := by decide +kernel
theorem dF_compare_40 : decode prog_1_method_8_code 40 = .ok (.aload_n 0, 1) := by decide +kernel
theorem dF_compare_41 : decode prog_1_method_8_code 41 = .ok (.getfield 9, 3) := by decide +kernel
theorem dF_compare_44 : decode prog_1_method_8_code 44 = .ok (.iload_n 2, 1) := by decide +kernel
theorem dF_compare_45 : decode prog_1_method_8_code 45 = .ok (.iaload, 1) := by decide +kernel
theorem dF_compare_46 : decode prog_1_method_8_code 46 = .ok (.iload_n 3, 1) := by decide +kernel
theorem dF_compare_47 : decode prog_1_method_8_code 47 = .ok (.invokestatic 35, 3) := by decide +kernel
theorem dF_compare_50 : decode prog_1_method_8_code 50 = .ok (.invokestatic 22, 3) := by decide +kernel
theorem dF_compare_53 : decode prog_1_method_8_code 53 = .ok (.istore 5, 2) := by decide +kernel
theorem dF_compare_55 : decode prog_1_method_8_code 55 = .ok (.iload 4, 2) := by decide +kernel
theorem dF_compare_57 : decode prog_1_method_8_code 57 = .ok (.iload 5, 2) := by decide +kernel
theorem dF_compare_59 : decode prog_1_method_8_code 59 = .ok (.if_icmp .ge 7, 3) := by decide +kernel
theorem dF_compare_62 : decode prog_1_method_8_code 62 = .ok (.iconst (-1), 1) := by decide +kernel
theorem dF_compare_63 : decode prog_1_method_8_code 63 = .ok (.goto 15, 3) := by decide +kernel
theorem dF_compare_66 : decode prog_1_method_8_code 66 = .ok (.iload 4, 2) := by decide +kernel
theorem dF_compare_68 : decode prog_1_method_8_code 68 = .ok (.iload 5, 2) := by decide +kernel
theorem dF_compare_70 : decode prog_1_method_8_code 70 = .ok (.if_icmp .le 7, 3) := by decide +kernel
theorem dF_compare_73 : decode prog_1_method_8_code 73 = .ok (.iconst 1, 1) := by decide +kernel
theorem dF_compare_74 : decode prog_1_method_8_code 74 = .ok (.goto 4, 3) := by decide +kernel
theorem dF_compare_77 : decode prog_1_method_8_code 77 = .ok (.iconst 0, 1) := by decide +kernel
theorem dF_compare_78 : decode prog_1_method_8_code 78 = .ok (.ireturn, 1) := by decide +kernel
theorem dF_set_0 : decode prog_1_method_2_code 0 = .ok (.iload_n 1, 1) := by decide +kernel
theorem dF_set_1 : decode prog_1_method_2_code 1 = .ok (.invokestatic 13, 3) := by decide +kernel
theorem dF_set_4 : decode prog_1_method_2_code 4 = .ok (.ifCond .eq 15, 3) := by decide +kernel
theorem dF_set_7 : decode prog_1_method_2_code 7 = .ok (.iload_n 2, 1) := by decide +kernel
theorem dF_set_8 : decode prog_1_method_2_code 8 = .ok (.ldc 17, 2) := by decide +kernel
theorem dF_set_10 : decode prog_1_method_2_code 10 = .ok (.if_icmp .gt 9, 3) := by decide +kernel
theorem dF_set_13 : decode prog_1_method_2_code 13 = .ok (.iload_n 2, 1) := by decide +kernel
theorem dF_set_14 : decode prog_1_method_2_code 14 = .ok (.ldc 18, 2) := by decide +kernel
theorem dF_set_16 : decode prog_1_method_2_code 16 = .ok (.if_icmp .ge 5, 3) := by decide +kernel
theorem dF_set_19 : decode prog_1_method_2_code 19 = .ok (.iconst 0, 1) := by decide +kernel
theorem dF_set_20 : decode prog_1_method_2_code 20 = .ok (.ireturn, 1) := by decide +kernel
theorem dF_set_21 : decode prog_1_method_2_code 21 = .ok (.iload_n 2, 1) := by decide +kernel
theorem dF_set_22 : decode prog_1_method_2_code 22 = .ok (.ifCond .lt 11, 3) := by decide +kernel
theorem dF_set_25 : decode prog_1_method_2_code 25 = .ok (.iload_n 2, 1) := by decide +kernel
theorem dF_set_26 : decode prog_1_method_2_code 26 = .ok (.ifCond .ne 11, 3) := by decide +kernel
theorem dF_set_29 : decode prog_1_method_2_code 29 = .ok (.iload_n 3, 1) := by decide +kernel
theorem dF_set_30 : decode prog_1_method_2_code 30 = .ok (.ifCond .eq 7, 3) := by decide +kernel
theorem dF_set_33 : decode prog_1_method_2_code 33 = .ok (.iconst 1, 1) := by decide +kernel
theorem dF_set_34 : decode prog_1_method_2_code 34 = .ok (.goto 4, 3) := by decide +kernel
theorem dF_set_37 : decode prog_1_method_2_code 37 = .ok (.iconst 0, 1) := by decide +kernel
theorem dF_set_38 : decode prog_1_method_2_code 38 = .ok (.istore 4, 2) := by decide +kernel
theorem dF_set_40 : decode prog_1_method_2_code 40 = .ok (.aload_n 0, 1) := by decide +kernel
theorem dF_set_41 : decode prog_1_method_2_code 41 = .ok (.getfield 9, 3) := by decide +kernel
theorem dF_set_44 : decode prog_1_method_2_code 44 = .ok (.iload_n 1, 1) := by decide +kernel
theorem dF_set_45 : decode prog_1_method_2_code 45 = .ok (.iload_n 2, 1) := by decide +kernel
theorem dF_set_46 : decode prog_1_method_2_code 46 = .ok (.ifCond .ge 8, 3) := by decide +kernel
theorem dF_set_49 : decode prog_1_method_2_code 49 = .ok (.iload_n 2, 1) := by decide +kernel
theorem dF_set_50 : decode prog_1_method_2_code 50 = .ok (.ineg, 1) := by decide +kernel
theorem dF_set_51 : decode prog_1_method_2_code 51 = .ok (.goto 4, 3) := by decide +kernel
theorem dF_set_54 : decode prog_1_method_2_code 54 = .ok (.iload_n 2, 1) := by decide +kernel
theorem dF_set_55 : decode prog_1_method_2_code 55 = .ok (.iload 4, 2) := by decide +kernel
theorem dF_set_57 : decode prog_1_method_2_code 57 = .ok (.ifCond .eq 8, 3) := by decide +kernel
theorem dF_set_60 : decode prog_1_method_2_code 60 = .ok (.ldc 19, 2) := by decide +kernel
theorem dF_set_62 : decode prog_1_method_2_code 62 = .ok (.goto 4, 3) := by decide +kernel
theorem dF_set_65 : decode prog_1_method_2_code 65 = .ok (.iconst 0, 1) := by decide +kernel
theorem dF_set_66 : decode prog_1_method_2_code 66 = .ok (.ior, 1) := by decide +kernel
theorem dF_set_67 : decode prog_1_method_2_code 67 = .ok (.iastore, 1) := by decide +kernel
theorem dF_set_68 : decode prog_1_method_2_code 68 = .ok (.iconst 1, 1) := by decide +kernel
theorem dF_set_69 : decode prog_1_method_2_code 69 = .ok (.ireturn, 1) := by decide +kernel
theorem dF_load_0 : decode prog_1_method_5_code 0 = .ok (.iload_n 1, 1) := by decide +kernel
theorem dF_load_1 : decode prog_1_method_5_code 1 = .ok (.invokestatic 13, 3) := by decide +kernel
theorem dF_load_4 : decode prog_1_method_5_code 4 = .ok (.ifCond .eq 18, 3) := by decide +kernel
theorem dF_load_7 : decode prog_1_method_5_code 7 = .ok (.iload_n 2, 1) := by decide +kernel
theorem dF_load_8 : decode prog_1_method_5_code 8 = .ok (.invokestatic 13, 3) := by decide +kernel
theorem dF_load_11 : decode prog_1_method_5_code 11 = .ok (.ifCond .eq 11, 3) := by decide +kernel
theorem dF_load_14 : decode prog_1_method_5_code 14 = .ok (.aload_n 0, 1) := by decide +kernel
theorem dF_load_15 : decode prog_1_method_5_code 15 = .ok (.iload_n 3, 1) := by decide +kernel
theorem dF_load_16 : decode prog_1_method_5_code 16 = .ok (.invokevirtual 32, 3) := by decide +kernel
theorem dF_load_19 : decode prog_1_method_5_code 19 = .ok (.ifCond .ne 5, 3) := by decide +kernel
theorem dF_load_22 : decode prog_1_method_5_code 22 = .ok (.iconst 0, 1) := by decide +kernel
theorem dF_load_23 : decode prog_1_method_5_code 23 = .ok (.ireturn, 1) := by decide +kernel
theorem dF_load_24 : decode prog_1_method_5_code 24 = .ok (.aload_n 0, 1) := by decide +kernel
theorem dF_load_25 : decode prog_1_method_5_code 25 = .ok (.getfield 9, 3) := by decide +kernel
theorem dF_load_28 : decode prog_1_method_5_code 28 = .ok (.iload_n 1, 1) := by decide +kernel
theorem dF_load_29 : decode prog_1_method_5_code 29 = .ok (.aload_n 0, 1) := by decide +kernel
theorem dF_load_30 : decode prog_1_method_5_code 30 = .ok (.getfield 9, 3) := by decide +kernel
theorem dF_load_33 : decode prog_1_method_5_code 33 = .ok (.iload_n 2, 1) := by decide +kernel
theorem dF_load_34 : decode prog_1_method_5_code 34 = .ok (.iaload, 1) := by decide +kernel
theorem dF_load_35 : decode prog_1_method_5_code 35 = .ok (.iload_n 3, 1) := by decide +kernel
theorem dF_load_36 : decode prog_1_method_5_code 36 = .ok (.invokestatic 35, 3) := by decide +kernel
theorem dF_load_39 : decode prog_1_method_5_code 39 = .ok (.iastore, 1) := by decide +kernel
theorem dF_load_40 : decode prog_1_method_5_code 40 = .ok (.iconst 1, 1) := by decide +kernel
theorem dF_load_41 : decode prog_1_method_5_code 41 = .ok (.ireturn, 1) := by decide +kernel
theorem dF_store_0 : decode prog_1_method_6_code 0 = .ok (.iload_n 1, 1) := by decide +kernel
theorem dF_store_1 : decode prog_1_method_6_code 1 = .ok (.invokestatic 13, 3) := by decide +kernel
theorem dF_store_4 : decode prog_1_method_6_code 4 = .ok (.ifCond .eq 18, 3) := by decide +kernel
theorem dF_store_7 : decode prog_1_method_6_code 7 = .ok (.iload_n 2, 1) := by decide +kernel
theorem dF_store_8 : decode prog_1_method_6_code 8 = .ok (.invokestatic 13, 3) := by decide +kernel
theorem dF_store_11 : decode prog_1_method_6_code 11 = .ok (.ifCond .eq 11, 3) := by decide +kernel
theorem dF_store_14 : decode prog_1_method_6_code 14 = .ok (.aload_n 0, 1) := by decide +kernel
theorem dF_store_15 : decode prog_1_method_6_code 15 = .ok (.iload_n 3, 1) := by decide +kernel
theorem dF_store_16 : decode prog_1_method_6_code 16 = .ok (.invokevirtual 32, 3) := by decide +kernel
theorem dF_store_19 : decode prog_1_method_6_code 19 = .ok (.ifCond .ne 5, 3) := by decide +kernel
theorem dF_store_22 : decode prog_1_method_6_code 22 = .ok (.iconst 0, 1) := by decide +kernel
theorem dF_store_23 : decode prog_1_method_6_code 23 = .ok (.ireturn, 1) := by decide +kernel
theorem dF_store_24 : decode prog_1_method_6_code 24 = .ok (.aload_n 0, 1) := by decide +kernel
theorem dF_store_25 : decode prog_1_method_6_code 25 = .ok (.getfield 9, 3) := by decide +kernel
theorem dF_store_28 : decode prog_1_method_6_code 28 = .ok (.iload_n 2, 1) := by decide +kernel
theorem dF_store_29 : decode prog_1_method_6_code 29 = .ok (.iaload, 1) := by decide +kernel
theorem dF_store_30 : decode prog_1_method_6_code 30 = .ok (.istore 4, 2) := by decide +kernel
theorem dF_store_32 : decode prog_1_method_6_code 32 = .ok (.iload 4, 2) := by decide +kernel
theorem dF_store_34 : decode prog_1_method_6_code 34 = .ok (.iload_n 3, 1) := by decide +kernel
theorem dF_store_35 : decode prog_1_method_6_code 35 = .ok (.invokestatic 39, 3) := by decide +kernel
theorem dF_store_38 : decode prog_1_method_6_code 38 = .ok (.iand, 1) := by decide +kernel
theorem dF_store_39 : decode prog_1_method_6_code 39 = .ok (.iload_n 3, 1) := by decide +kernel
theorem dF_store_40 : decode prog_1_method_6_code 40 = .ok (.invokestatic 42, 3) := by decide +kernel
theorem dF_store_43 : decode prog_1_method_6_code 43 = .ok (.invokestatic 29, 3) := by decide +kernel
theorem dF_store_46 : decode prog_1_method_6_code 46 = .ok (.ishl, 1) := by decide +kernel
theorem dF_store_47 : decode prog_1_method_6_code 47 = .ok (.istore 5, 2) := by decide +kernel
theorem dF_store_49 : decode prog_1_method_6_code 49 = .ok (.iload_n 3, 1) := by decide +kernel
theorem dF_store_50 : decode prog_1_method_6_code 50 = .ok (.invokestatic 39, 3) := by decide +kernel
theorem dF_store_53 : decode prog_1_method_6_code 53 = .ok (.iload_n 3, 1) := by decide +kernel
theorem dF_store_54 : decode prog_1_method_6_code 54 = .ok (.invokestatic 42, 3) := by decide +kernel
theorem dF_store_57 : decode prog_1_method_6_code 57 = .ok (.invokestatic 29, 3) := by decide +kernel
theorem dF_store_60 : decode prog_1_method_6_code 60 = .ok (.ishl, 1) := by decide +kernel
theorem dF_store_61 : decode prog_1_method_6_code 61 = .ok (.iload_n 3, 1) := by decide +kernel
theorem dF_store_62 : decode prog_1_method_6_code 62 = .ok (.invokestatic 45, 3) := by decide +kernel
theorem dF_store_65 : decode prog_1_method_6_code 65 = .ok (.ior, 1) := by decide +kernel
theorem dF_store_66 : decode prog_1_method_6_code 66 = .ok (.istore 6, 2) := by decide +kernel
theorem dF_store_68 : decode prog_1_method_6_code 68 = .ok (.aload_n 0, 1) := by decide +kernel
theorem dF_store_69 : decode prog_1_method_6_code 69 = .ok (.getfield 9, 3) := by decide +kernel
theorem dF_store_72 : decode prog_1_method_6_code 72 = .ok (.iload_n 1, 1) := by decide +kernel
theorem dF_store_73 : decode prog_1_method_6_code 73 = .ok (.aload_n 0, 1) := by decide +kernel
theorem dF_store_74 : decode prog_1_method_6_code 74 = .ok (.getfield 9, 3) := by decide +kernel
theorem dF_store_77 : decode prog_1_method_6_code 77 = .ok (.iload_n 1, 1) := by decide +kernel
theorem dF_store_78 : decode prog_1_method_6_code 78 = .ok (.iaload, 1) := by decide +kernel
theorem dF_store_79 : decode prog_1_method_6_code 79 = .ok (.iload 6, 2) := by decide +kernel
theorem dF_store_81 : decode prog_1_method_6_code 81 = .ok (.iconst (-1), 1) := by decide +kernel
theorem dF_store_82 : decode prog_1_method_6_code 82 = .ok (.ixor, 1) := by decide +kernel
theorem dF_store_83 : decode prog_1_method_6_code 83 = .ok (.iand, 1) := by decide +kernel
theorem dF_store_84 : decode prog_1_method_6_code 84 = .ok (.iload 5, 2) := by decide +kernel
theorem dF_store_86 : decode prog_1_method_6_code 86 = .ok (.ior, 1) := by decide +kernel
theorem dF_store_87 : decode prog_1_method_6_code 87 = .ok (.iload 4, 2) := by decide +kernel
theorem dF_store_89 : decode prog_1_method_6_code 89 = .ok (.iload_n 3, 1) := by decide +kernel
theorem dF_store_90 : decode prog_1_method_6_code 90 = .ok (.invokestatic 45, 3) := by decide +kernel
theorem dF_store_93 : decode prog_1_method_6_code 93 = .ok (.iand, 1) := by decide +kernel
theorem dF_store_94 : decode prog_1_method_6_code 94 = .ok (.ior, 1) := by decide +kernel
theorem dF_store_95 : decode prog_1_method_6_code 95 = .ok (.iastore, 1) := by decide +kernel
theorem dF_store_96 : decode prog_1_method_6_code 96 = .ok (.iconst 1, 1) := by decide +kernel
theorem dF_store_97 : decode prog_1_method_6_code 97 = .ok (.ireturn, 1) := by decide +kernel
theorem dF_turn_0 : decode prog_1_method_7_code 0 = .ok (.iload_n 1, 1) := by decide +kernel
theorem dF_turn_1 : decode prog_1_method_7_code 1 = .ok (.invokestatic 13, 3) := by decide +kernel
theorem dF_turn_4 : decode prog_1_method_7_code 4 = .ok (.ifCond .ne 5, 3) := by decide +kernel
theorem dF_turn_7 : decode prog_1_method_7_code 7 = .ok (.iconst 0, 1) := by decide +kernel
theorem dF_turn_8 : decode prog_1_method_7_code 8 = .ok (.ireturn, 1) := by decide +kernel
theorem dF_turn_9 : decode prog_1_method_7_code 9 = .ok (.aload_n 0, 1) := by decide +kernel
theorem dF_turn_10 : decode prog_1_method_7_code 10 = .ok (.getfield 9, 3) := by decide +kernel
theorem dF_turn_13 : decode prog_1_method_7_code 13 = .ok (.iload_n 1, 1) := by decide +kernel
theorem dF_turn_14 : decode prog_1_method_7_code 14 = .ok (.dup2, 1) := by decide +kernel
theorem dF_turn_15 : decode prog_1_method_7_code 15 = .ok (.iaload, 1) := by decide +kernel
theorem dF_turn_16 : decode prog_1_method_7_code 16 = .ok (.ldc 19, 2) := by decide +kernel
theorem dF_turn_18 : decode prog_1_method_7_code 18 = .ok (.ixor, 1) := by decide +kernel
theorem dF_turn_19 : decode prog_1_method_7_code 19 = .ok (.iastore, 1) := by decide +kernel
theorem dF_turn_20 : decode prog_1_method_7_code 20 = .ok (.iconst 1, 1) := by decide +kernel
theorem dF_turn_21 : decode prog_1_method_7_code 21 = .ok (.ireturn, 1) := by decide +kernel
theorem dS_coder_0 : decode prog_6_method_152_code 0 = .ok (.getstatic 38, 3) := by decide +kernel
theorem dS_coder_3 : decode prog_6_method_152_code 3 = .ok (.ifCond .eq 10, 3) := by decide +kernel
theorem dS_coder_6 : decode prog_6_method_152_code 6 = .ok (.aload_n 0, 1) := by decide +kernel
theorem dS_coder_7 : decode prog_6_method_152_code 7 = .ok (.getfield 15, 3) := by decide +kernel
theorem dS_coder_10 : decode prog_6_method_152_code 10 = .ok (.goto 4, 3) := by decide +kernel
theorem dS_coder_13 : decode prog_6_method_152_code 13 = .ok (.iconst 1, 1) := by decide +kernel
theorem dS_coder_14 : decode prog_6_method_152_code 14 = .ok (.ireturn, 1) := by decide +kernel
theorem dS_isLatin1_0 : decode prog_6_method_154_code 0 = .ok (.getstatic 38, 3) := by decide +kernel
theorem dS_isLatin1_3 : decode prog_6_method_154_code 3 = .ok (.ifCond .eq 14, 3) := by decide +kernel
theorem dS_isLatin1_6 : decode prog_6_method_154_code 6 = .ok (.aload_n 0, 1) := by decide +kernel
theorem dS_isLatin1_7 : decode prog_6_method_154_code 7 = .ok (.getfield 15, 3) := by decide +kernel
theorem dS_isLatin1_10 : decode prog_6_method_154_code 10 = .ok (.ifCond .ne 7, 3) := by decide +kernel
theorem dS_isLatin1_13 : decode prog_6_method_154_code 13 = .ok (.iconst 1, 1) := by decide +kernel
theorem dS_isLatin1_14 : decode prog_6_method_154_code 14 = .ok (.goto 4, 3) := by decide +kernel
theorem dS_isLatin1_17 : decode prog_6_method_154_code 17 = .ok (.iconst 0, 1) := by decide +kernel
theorem dS_isLatin1_18 : decode prog_6_method_154_code 18 = .ok (.ireturn, 1) := by decide +kernel
theorem dS_length_0 : decode prog_6_method_54_code 0 = .ok (.aload_n 0, 1) := by decide +kernel
theorem dS_length_1 : decode prog_6_method_54_code 1 = .ok (.getfield 9, 3) := by decide +kernel
theorem dS_length_4 : decode prog_6_method_54_code 4 = .ok (.arraylength, 1) := by decide +kernel
theorem dS_length_5 : decode prog_6_method_54_code 5 = .ok (.aload_n 0, 1) := by decide +kernel
theorem dS_length_6 : decode prog_6_method_54_code 6 = .ok (.invokevirtual 335, 3) := by decide +kernel
theorem dS_length_9 : decode prog_6_method_54_code 9 = .ok (.ishr, 1) := by decide +kernel
theorem dS_length_10 : decode prog_6_method_54_code 10 = .ok (.ireturn, 1) := by decide +kernel
theorem dQ_checkIndex_0 : decode prog_9_method_11_code 0 = .ok (.iload_n 0, 1) := by decide +kernel
theorem dQ_checkIndex_1 : decode prog_9_method_11_code 1 = .ok (.ifCond .lt 8, 3) := by decide +kernel
theorem dQ_checkIndex_4 : decode prog_9_method_11_code 4 = .ok (.iload_n 0, 1) := by decide +kernel
theorem dQ_checkIndex_5 : decode prog_9_method_11_code 5 = .ok (.iload_n 1, 1) := by decide +kernel
theorem dQ_checkIndex_6 : decode prog_9_method_11_code 6 = .ok (.if_icmp .lt 10, 3) := by decide +kernel
theorem dQ_checkIndex_9 : decode prog_9_method_11_code 9 = .ok (.aload_n 2, 1) := by decide +kernel
theorem dQ_checkIndex_10 : decode prog_9_method_11_code 10 = .ok (.iload_n 0, 1) := by decide +kernel
theorem dQ_checkIndex_11 : decode prog_9_method_11_code 11 = .ok (.iload_n 1, 1) := by decide +kernel
theorem dQ_checkIndex_12 : decode prog_9_method_11_code 12 = .ok (.invokestatic 95, 3) := by decide +kernel
theorem dQ_checkIndex_15 : decode prog_9_method_11_code 15 = .ok (.athrow, 1) := by decide +kernel
theorem dQ_checkIndex_16 : decode prog_9_method_11_code 16 = .ok (.iload_n 0, 1) := by decide +kernel
theorem dQ_checkIndex_17 : decode prog_9_method_11_code 17 = .ok (.ireturn, 1) := by decide +kernel
theorem dS_checkIndex_0 : decode prog_6_method_155_code 0 = .ok (.iload_n 0, 1) := by decide +kernel
theorem dS_checkIndex_1 : decode prog_6_method_155_code 1 = .ok (.iload_n 1, 1) := by decide +kernel
theorem dS_checkIndex_2 : decode prog_6_method_155_code 2 = .ok (.getstatic 1053, 3) := by decide +kernel
theorem dS_checkIndex_5 : decode prog_6_method_155_code 5 = .ok (.invokestatic 1059, 3) := by decide +kernel
theorem dS_checkIndex_8 : decode prog_6_method_155_code 8 = .ok (.pop, 1) := by decide +kernel
theorem dS_checkIndex_9 : decode prog_6_method_155_code 9 = .ok (.return_, 1) := by decide +kernel
theorem dZ_charAt_0 : decode prog_7_method_2_code 0 = .ok (.iload_n 1, 1) := by decide +kernel
theorem dZ_charAt_1 : decode prog_7_method_2_code 1 = .ok (.aload_n 0, 1) := by decide +kernel
theorem dZ_charAt_2 : decode prog_7_method_2_code 2 = .ok (.arraylength, 1) := by decide +kernel
theorem dZ_charAt_3 : decode prog_7_method_2_code 3 = .ok (.invokestatic 9, 3) := by decide +kernel
theorem dZ_charAt_6 : decode prog_7_method_2_code 6 = .ok (.aload_n 0, 1) := by decide +kernel
theorem dZ_charAt_7 : decode prog_7_method_2_code 7 = .ok (.iload_n 1, 1) := by decide +kernel
theorem dZ_charAt_8 : decode prog_7_method_2_code 8 = .ok (.baload, 1) := by decide +kernel
theorem dZ_charAt_9 : decode prog_7_method_2_code 9 = .ok (.sipush 255, 3) := by decide +kernel
theorem dZ_charAt_12 : decode prog_7_method_2_code 12 = .ok (.iand, 1) := by decide +kernel
theorem dZ_charAt_13 : decode prog_7_method_2_code 13 = .ok (.i2c, 1) := by decide +kernel
theorem dZ_charAt_14 : decode prog_7_method_2_code 14 = .ok (.ireturn, 1) := by decide +kernel
theorem dS_charAt_0 : decode prog_6_method_56_code 0 = .ok (.aload_n 0, 1) := by decide +kernel
theorem dS_charAt_1 : decode prog_6_method_56_code 1 = .ok (.invokevirtual 492, 3) := by decide +kernel
theorem dS_charAt_4 : decode prog_6_method_56_code 4 = .ok (.ifCond .eq 12, 3) := by decide +kernel
theorem dS_charAt_7 : decode prog_6_method_56_code 7 = .ok (.aload_n 0, 1) := by decide +kernel
theorem dS_charAt_8 : decode prog_6_method_56_code 8 = .ok (.getfield 9, 3) := by decide +kernel
theorem dS_charAt_11 : decode prog_6_method_56_code 11 = .ok (.iload_n 1, 1) := by decide +kernel
theorem dS_charAt_12 : decode prog_6_method_56_code 12 = .ok (.invokestatic 495, 3) := by decide +kernel
theorem dS_charAt_15 : decode prog_6_method_56_code 15 = .ok (.ireturn, 1) := by decide +kernel
theorem dS_charAt_16 : decode prog_6_method_56_code 16 = .ok (.aload_n 0, 1) := by decide +kernel
theorem dS_charAt_17 : decode prog_6_method_56_code 17 = .ok (.getfield 9, 3) := by decide +kernel
theorem dS_charAt_20 : decode prog_6_method_56_code 20 = .ok (.iload_n 1, 1) := by decide +kernel
theorem dS_charAt_21 : decode prog_6_method_56_code 21 = .ok (.invokestatic 498, 3) := by decide +kernel
theorem dS_charAt_24 : decode prog_6_method_56_code 24 = .ok (.ireturn, 1) := by decide +kernel
theorem dZ_canEncode_0 : decode prog_7_method_4_code 0 = .ok (.iload_n 0, 1) := by decide +kernel
theorem dZ_canEncode_1 : decode prog_7_method_4_code 1 = .ok (.ifCond .lt 14, 3) := by decide +kernel
theorem dZ_canEncode_4 : decode prog_7_method_4_code 4 = .ok (.iload_n 0, 1) := by decide +kernel
theorem dZ_canEncode_5 : decode prog_7_method_4_code 5 = .ok (.sipush 255, 3) := by decide +kernel
theorem dZ_canEncode_8 : decode prog_7_method_4_code 8 = .ok (.if_icmp .gt 7, 3) := by decide +kernel
theorem dZ_canEncode_11 : decode prog_7_method_4_code 11 = .ok (.iconst 1, 1) := by decide +kernel
theorem dZ_canEncode_12 : decode prog_7_method_4_code 12 = .ok (.goto 4, 3) := by decide +kernel
theorem dZ_canEncode_15 : decode prog_7_method_4_code 15 = .ok (.iconst 0, 1) := by decide +kernel
theorem dZ_canEncode_16 : decode prog_7_method_4_code 16 = .ok (.ireturn, 1) := by decide +kernel
theorem dZ_indexOfChar_0 : decode prog_7_method_23_code 0 = .ok (.iload_n 1, 1) := by decide +kernel
theorem dZ_indexOfChar_1 : decode prog_7_method_23_code 1 = .ok (.i2b, 1) := by decide +kernel
theorem dZ_indexOfChar_2 : decode prog_7_method_23_code 2 = .ok (.istore 4, 2) := by decide +kernel
theorem dZ_indexOfChar_4 : decode prog_7_method_23_code 4 = .ok (.iload_n 2, 1) := by decide +kernel
theorem dZ_indexOfChar_5 : decode prog_7_method_23_code 5 = .ok (.istore 5, 2) := by decide +kernel
theorem dZ_indexOfChar_7 : decode prog_7_method_23_code 7 = .ok (.iload 5, 2) := by decide +kernel
theorem dZ_indexOfChar_9 : decode prog_7_method_23_code 9 = .ok (.iload_n 3, 1) := by decide +kernel
theorem dZ_indexOfChar_10 : decode prog_7_method_23_code 10 = .ok (.if_icmp .ge 21, 3) := by decide +kernel
theorem dZ_indexOfChar_13 : decode prog_7_method_23_code 13 = .ok (.aload_n 0, 1) := by decide +kernel
theorem dZ_indexOfChar_14 : decode prog_7_method_23_code 14 = .ok (.iload 5, 2) := by decide +kernel
theorem dZ_indexOfChar_16 : decode prog_7_method_23_code 16 = .ok (.baload, 1) := by decide +kernel
theorem dZ_indexOfChar_17 : decode prog_7_method_23_code 17 = .ok (.iload 4, 2) := by decide +kernel
theorem dZ_indexOfChar_19 : decode prog_7_method_23_code 19 = .ok (.if_icmp .ne 6, 3) := by decide +kernel
theorem dZ_indexOfChar_22 : decode prog_7_method_23_code 22 = .ok (.iload 5, 2) := by decide +kernel
theorem dZ_indexOfChar_24 : decode prog_7_method_23_code 24 = .ok (.ireturn, 1) := by decide +kernel
theorem dZ_indexOfChar_25 : decode prog_7_method_23_code 25 = .ok (.iinc 5 1, 3) := by decide +kernel
theorem dZ_indexOfChar_28 : decode prog_7_method_23_code 28 = .ok (.goto (-21), 3) := by decide +kernel
theorem dZ_indexOfChar_31 : decode prog_7_method_23_code 31 = .ok (.iconst (-1), 1) := by decide +kernel
theorem dZ_indexOfChar_32 : decode prog_7_method_23_code 32 = .ok (.ireturn, 1) := by decide +kernel
theorem dZ_indexOf_0 : decode prog_7_method_22_code 0 = .ok (.iload_n 1, 1) := by decide +kernel
theorem dZ_indexOf_1 : decode prog_7_method_22_code 1 = .ok (.invokestatic 88, 3) := by decide +kernel
theorem dZ_indexOf_4 : decode prog_7_method_22_code 4 = .ok (.ifCond .ne 5, 3) := by decide +kernel
theorem dZ_indexOf_7 : decode prog_7_method_22_code 7 = .ok (.iconst (-1), 1) := by decide +kernel
theorem dZ_indexOf_8 : decode prog_7_method_22_code 8 = .ok (.ireturn, 1) := by decide +kernel
theorem dZ_indexOf_9 : decode prog_7_method_22_code 9 = .ok (.iload_n 2, 1) := by decide +kernel
theorem dZ_indexOf_10 : decode prog_7_method_22_code 10 = .ok (.iconst 0, 1) := by decide +kernel
theorem dZ_indexOf_11 : decode prog_7_method_22_code 11 = .ok (.invokestatic 92, 3) := by decide +kernel
theorem dZ_indexOf_14 : decode prog_7_method_22_code 14 = .ok (.istore_n 2, 1) := by decide +kernel
theorem dZ_indexOf_15 : decode prog_7_method_22_code 15 = .ok (.iload_n 3, 1) := by decide +kernel
theorem dZ_indexOf_16 : decode prog_7_method_22_code 16 = .ok (.aload_n 0, 1) := by decide +kernel
theorem dZ_indexOf_17 : decode prog_7_method_22_code 17 = .ok (.arraylength, 1) := by decide +kernel
theorem dZ_indexOf_18 : decode prog_7_method_22_code 18 = .ok (.invokestatic 38, 3) := by decide +kernel
theorem dZ_indexOf_21 : decode prog_7_method_22_code 21 = .ok (.istore_n 3, 1) := by decide +kernel
theorem dZ_indexOf_22 : decode prog_7_method_22_code 22 = .ok (.iload_n 2, 1) := by decide +kernel
theorem dZ_indexOf_23 : decode prog_7_method_22_code 23 = .ok (.iload_n 3, 1) := by decide +kernel
theorem dZ_indexOf_24 : decode prog_7_method_22_code 24 = .ok (.if_icmp .lt 5, 3) := by decide +kernel
theorem dZ_indexOf_27 : decode prog_7_method_22_code 27 = .ok (.iconst (-1), 1) := by decide +kernel
theorem dZ_indexOf_28 : decode prog_7_method_22_code 28 = .ok (.ireturn, 1) := by decide +kernel
theorem dZ_indexOf_29 : decode prog_7_method_22_code 29 = .ok (.aload_n 0, 1) := by decide +kernel
theorem dZ_indexOf_30 : decode prog_7_method_22_code 30 = .ok (.iload_n 1, 1) := by decide +kernel
theorem dZ_indexOf_31 : decode prog_7_method_22_code 31 = .ok (.iload_n 2, 1) := by decide +kernel
theorem dZ_indexOf_32 : decode prog_7_method_22_code 32 = .ok (.iload_n 3, 1) := by decide +kernel
theorem dZ_indexOf_33 : decode prog_7_method_22_code 33 = .ok (.invokestatic 95, 3) := by decide +kernel
theorem dZ_indexOf_36 : decode prog_7_method_22_code 36 = .ok (.ireturn, 1) := by decide +kernel
theorem dS_indexOf2_0 : decode prog_6_method_80_code 0 = .ok (.aload_n 0, 1) := by decide +kernel
theorem dS_indexOf2_1 : decode prog_6_method_80_code 1 = .ok (.invokevirtual 492, 3) := by decide +kernel
theorem dS_indexOf2_4 : decode prog_6_method_80_code 4 = .ok (.ifCond .eq 19, 3) := by decide +kernel
theorem dS_indexOf2_7 : decode prog_6_method_80_code 7 = .ok (.aload_n 0, 1) := by decide +kernel
theorem dS_indexOf2_8 : decode prog_6_method_80_code 8 = .ok (.getfield 9, 3) := by decide +kernel
theorem dS_indexOf2_11 : decode prog_6_method_80_code 11 = .ok (.iload_n 1, 1) := by decide +kernel
theorem dS_indexOf2_12 : decode prog_6_method_80_code 12 = .ok (.iload_n 2, 1) := by decide +kernel
theorem dS_indexOf2_13 : decode prog_6_method_80_code 13 = .ok (.aload_n 0, 1) := by decide +kernel
theorem dS_indexOf2_14 : decode prog_6_method_80_code 14 = .ok (.invokevirtual 505, 3) := by decide +kernel
theorem dS_indexOf2_17 : decode prog_6_method_80_code 17 = .ok (.invokestatic 637, 3) := by decide +kernel
theorem dS_indexOf2_20 : decode prog_6_method_80_code 20 = .ok (.goto 16, 3) := by decide +kernel
theorem dS_indexOf2_23 : decode prog_6_method_80_code 23 = .ok (.aload_n 0, 1) := by decide +kernel
theorem dS_indexOf2_24 : decode prog_6_method_80_code 24 = .ok (.getfield 9, 3) := by decide +kernel
theorem dS_indexOf2_27 : decode prog_6_method_80_code 27 = .ok (.iload_n 1, 1) := by decide +kernel
theorem dS_indexOf2_28 : decode prog_6_method_80_code 28 = .ok (.iload_n 2, 1) := by decide +kernel
theorem dS_indexOf2_29 : decode prog_6_method_80_code 29 = .ok (.aload_n 0, 1) := by decide +kernel
theorem dS_indexOf2_30 : decode prog_6_method_80_code 30 = .ok (.invokevirtual 505, 3) := by decide +kernel
theorem dS_indexOf2_33 : decode prog_6_method_80_code 33 = .ok (.invokestatic 640, 3) := by decide +kernel
theorem dS_indexOf2_36 : decode prog_6_method_80_code 36 = .ok (.ireturn, 1) := by decide +kernel
theorem dS_indexOf_0 : decode prog_6_method_79_code 0 = .ok (.aload_n 0, 1) := by decide +kernel
theorem dS_indexOf_1 : decode prog_6_method_79_code 1 = .ok (.iload_n 1, 1) := by decide +kernel
theorem dS_indexOf_2 : decode prog_6_method_79_code 2 = .ok (.iconst 0, 1) := by decide +kernel
theorem dS_indexOf_3 : decode prog_6_method_79_code 3 = .ok (.invokevirtual 633, 3) := by decide +kernel
theorem dS_indexOf_6 : decode prog_6_method_79_code 6 = .ok (.ireturn, 1) := by decide +kernel
theorem dF_letter_0 : decode prog_1_method_10_code 0 = .ok (.iload_n 1, 1) := by decide +kernel
theorem dF_letter_1 : decode prog_1_method_10_code 1 = .ok (.ifCond .lt 9, 3) := by decide +kernel
theorem dF_letter_4 : decode prog_1_method_10_code 4 = .ok (.iload_n 1, 1) := by decide +kernel
theorem dF_letter_5 : decode prog_1_method_10_code 5 = .ok (.bipush 63, 2) := by decide +kernel
theorem dF_letter_7 : decode prog_1_method_10_code 7 = .ok (.if_icmp .le 5, 3) := by decide +kernel
theorem dF_letter_10 : decode prog_1_method_10_code 10 = .ok (.iconst (-1), 1) := by decide +kernel
theorem dF_letter_11 : decode prog_1_method_10_code 11 = .ok (.ireturn, 1) := by decide +kernel
theorem dF_letter_12 : decode prog_1_method_10_code 12 = .ok (.iload_n 1, 1) := by decide +kernel
theorem dF_letter_13 : decode prog_1_method_10_code 13 = .ok (.ldc 51, 2) := by decide +kernel
theorem dF_letter_15 : decode prog_1_method_10_code 15 = .ok (.invokevirtual 53, 3) := by decide +kernel
theorem dF_letter_18 : decode prog_1_method_10_code 18 = .ok (.if_icmp .ge 12, 3) := by decide +kernel
theorem dF_letter_21 : decode prog_1_method_10_code 21 = .ok (.ldc 51, 2) := by decide +kernel
theorem dF_letter_23 : decode prog_1_method_10_code 23 = .ok (.iload_n 1, 1) := by decide +kernel
theorem dF_letter_24 : decode prog_1_method_10_code 24 = .ok (.invokevirtual 59, 3) := by decide +kernel
theorem dF_letter_27 : decode prog_1_method_10_code 27 = .ok (.goto 5, 3) := by decide +kernel
theorem dF_letter_30 : decode prog_1_method_10_code 30 = .ok (.bipush 63, 2) := by decide +kernel
theorem dF_letter_32 : decode prog_1_method_10_code 32 = .ok (.ireturn, 1) := by decide +kernel
theorem dF_code_0 : decode prog_1_method_11_code 0 = .ok (.iload_n 1, 1) := by decide +kernel
theorem dF_code_1 : decode prog_1_method_11_code 1 = .ok (.ifCond .lt 10, 3) := by decide +kernel
theorem dF_code_4 : decode prog_1_method_11_code 4 = .ok (.iload_n 1, 1) := by decide +kernel
theorem dF_code_5 : decode prog_1_method_11_code 5 = .ok (.sipush 255, 3) := by decide +kernel
theorem dF_code_8 : decode prog_1_method_11_code 8 = .ok (.if_icmp .le 5, 3) := by decide +kernel
theorem dF_code_11 : decode prog_1_method_11_code 11 = .ok (.iconst (-1), 1) := by decide +kernel
theorem dF_code_12 : decode prog_1_method_11_code 12 = .ok (.ireturn, 1) := by decide +kernel
theorem dF_code_13 : decode prog_1_method_11_code 13 = .ok (.ldc 51, 2) := by decide +kernel
theorem dF_code_15 : decode prog_1_method_11_code 15 = .ok (.iload_n 1, 1) := by decide +kernel
theorem dF_code_16 : decode prog_1_method_11_code 16 = .ok (.invokestatic 63, 3) := by decide +kernel
theorem dF_code_19 : decode prog_1_method_11_code 19 = .ok (.i2c, 1) := by decide +kernel
theorem dF_code_20 : decode prog_1_method_11_code 20 = .ok (.invokevirtual 66, 3) := by decide +kernel
theorem dF_code_23 : decode prog_1_method_11_code 23 = .ok (.istore_n 2, 1) := by decide +kernel
theorem dF_code_24 : decode prog_1_method_11_code 24 = .ok (.iload_n 2, 1) := by decide +kernel
theorem dF_code_25 : decode prog_1_method_11_code 25 = .ok (.ifCond .ge 7, 3) := by decide +kernel
theorem dF_code_28 : decode prog_1_method_11_code 28 = .ok (.iconst 0, 1) := by decide +kernel
theorem dF_code_29 : decode prog_1_method_11_code 29 = .ok (.goto 4, 3) := by decide +kernel
theorem dF_code_32 : decode prog_1_method_11_code 32 = .ok (.iload_n 2, 1) := by decide +kernel
theorem dF_code_33 : decode prog_1_method_11_code 33 = .ok (.ireturn, 1) := by decide +kernel
theorem dF_init_0 : decode prog_1_method_1_code 0 = .ok (.aload_n 0, 1) := by decide +kernel
theorem dF_init_1 : decode prog_1_method_1_code 1 = .ok (.invokespecial 3, 3) := by decide +kernel
theorem dF_init_4 : decode prog_1_method_1_code 4 = .ok (.aload_n 0, 1) := by decide +kernel
theorem dF_init_5 : decode prog_1_method_1_code 5 = .ok (.bipush 16, 2) := by decide +kernel
theorem dF_init_7 : decode prog_1_method_1_code 7 = .ok (.newarray .int, 2) := by decide +kernel
theorem dF_init_9 : decode prog_1_method_1_code 9 = .ok (.putfield 9, 3) := by decide +kernel
theorem dF_init_12 : decode prog_1_method_1_code 12 = .ok (.return_, 1) := by decide +kernel
