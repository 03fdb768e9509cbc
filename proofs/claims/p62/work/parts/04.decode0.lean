theorem dJ0_charAt_5068e_0 : decode cJ0_charAt_5068e 0 = .ok (.aload_n 0, 1) := by decide +kernel
theorem dJ0_charAt_5068e_1 : decode cJ0_charAt_5068e 1 = .ok (.invokevirtual 492, 3) := by decide +kernel
theorem dJ0_charAt_5068e_4 : decode cJ0_charAt_5068e 4 = .ok (.ifCond .eq 12, 3) := by decide +kernel
theorem dJ0_charAt_5068e_7 : decode cJ0_charAt_5068e 7 = .ok (.aload_n 0, 1) := by decide +kernel
theorem dJ0_charAt_5068e_8 : decode cJ0_charAt_5068e 8 = .ok (.getfield 9, 3) := by decide +kernel
theorem dJ0_charAt_5068e_11 : decode cJ0_charAt_5068e 11 = .ok (.iload_n 1, 1) := by decide +kernel
theorem dJ0_charAt_5068e_12 : decode cJ0_charAt_5068e 12 = .ok (.invokestatic 495, 3) := by decide +kernel
theorem dJ0_charAt_5068e_15 : decode cJ0_charAt_5068e 15 = .ok (.ireturn, 1) := by decide +kernel
theorem dJ0_charAt_5068e_16 : decode cJ0_charAt_5068e 16 = .ok (.aload_n 0, 1) := by decide +kernel
theorem dJ0_charAt_5068e_17 : decode cJ0_charAt_5068e 17 = .ok (.getfield 9, 3) := by decide +kernel
theorem dJ0_charAt_5068e_20 : decode cJ0_charAt_5068e 20 = .ok (.iload_n 1, 1) := by decide +kernel
theorem dJ0_charAt_5068e_21 : decode cJ0_charAt_5068e 21 = .ok (.invokestatic 498, 3) := by decide +kernel
theorem dJ0_charAt_5068e_24 : decode cJ0_charAt_5068e 24 = .ok (.ireturn, 1) := by decide +kernel
theorem dJ0_checkIndex_df160_0 : decode cJ0_checkIndex_df160 0 = .ok (.iload_n 0, 1) := by decide +kernel
theorem dJ0_checkIndex_df160_1 : decode cJ0_checkIndex_df160 1 = .ok (.iload_n 1, 1) := by decide +kernel
theorem dJ0_checkIndex_df160_2 : decode cJ0_checkIndex_df160 2 = .ok (.getstatic 1053, 3) := by decide +kernel
theorem dJ0_checkIndex_df160_5 : decode cJ0_checkIndex_df160 5 = .ok (.invokestatic 1059, 3) := by decide +kernel
theorem dJ0_checkIndex_df160_8 : decode cJ0_checkIndex_df160 8 = .ok (.pop, 1) := by decide +kernel
theorem dJ0_checkIndex_df160_9 : decode cJ0_checkIndex_df160 9 = .ok (.return_, 1) := by decide +kernel
theorem dJ0_coder_7d493_0 : decode cJ0_coder_7d493 0 = .ok (.getstatic 38, 3) := by decide +kernel
theorem dJ0_coder_7d493_3 : decode cJ0_coder_7d493 3 = .ok (.ifCond .eq 10, 3) := by decide +kernel
theorem dJ0_coder_7d493_6 : decode cJ0_coder_7d493 6 = .ok (.aload_n 0, 1) := by decide +kernel
theorem dJ0_coder_7d493_7 : decode cJ0_coder_7d493 7 = .ok (.getfield 15, 3) := by decide +kernel
theorem dJ0_coder_7d493_10 : decode cJ0_coder_7d493 10 = .ok (.goto 4, 3) := by decide +kernel
theorem dJ0_coder_7d493_13 : decode cJ0_coder_7d493 13 = .ok (.iconst 1, 1) := by decide +kernel
theorem dJ0_coder_7d493_14 : decode cJ0_coder_7d493 14 = .ok (.ireturn, 1) := by decide +kernel
theorem dJ0_isLatin1_aae02_0 : decode cJ0_isLatin1_aae02 0 = .ok (.getstatic 38, 3) := by decide +kernel
theorem dJ0_isLatin1_aae02_3 : decode cJ0_isLatin1_aae02 3 = .ok (.ifCond .eq 14, 3) := by decide +kernel
theorem dJ0_isLatin1_aae02_6 : decode cJ0_isLatin1_aae02 6 = .ok (.aload_n 0, 1) := by decide +kernel
theorem dJ0_isLatin1_aae02_7 : decode cJ0_isLatin1_aae02 7 = .ok (.getfield 15, 3) := by decide +kernel
theorem dJ0_isLatin1_aae02_10 : decode cJ0_isLatin1_aae02 10 = .ok (.ifCond .ne 7, 3) := by decide +kernel
theorem dJ0_isLatin1_aae02_13 : decode cJ0_isLatin1_aae02 13 = .ok (.iconst 1, 1) := by decide +kernel
theorem dJ0_isLatin1_aae02_14 : decode cJ0_isLatin1_aae02 14 = .ok (.goto 4, 3) := by decide +kernel
theorem dJ0_isLatin1_aae02_17 : decode cJ0_isLatin1_aae02 17 = .ok (.iconst 0, 1) := by decide +kernel
theorem dJ0_isLatin1_aae02_18 : decode cJ0_isLatin1_aae02 18 = .ok (.ireturn, 1) := by decide +kernel
theorem dJ0_length_8abf5_0 : decode cJ0_length_8abf5 0 = .ok (.aload_n 0, 1) := by decide +kernel
theorem dJ0_length_8abf5_1 : decode cJ0_length_8abf5 1 = .ok (.getfield 9, 3) := by decide +kernel
theorem dJ0_length_8abf5_4 : decode cJ0_length_8abf5 4 = .ok (.arraylength, 1) := by decide +kernel
theorem dJ0_length_8abf5_5 : decode cJ0_length_8abf5 5 = .ok (.aload_n 0, 1) := by decide +kernel
theorem dJ0_length_8abf5_6 : decode cJ0_length_8abf5 6 = .ok (.invokevirtual 335, 3) := by decide +kernel
theorem dJ0_length_8abf5_9 : decode cJ0_length_8abf5 9 = .ok (.ishr, 1) := by decide +kernel
theorem dJ0_length_8abf5_10 : decode cJ0_length_8abf5 10 = .ok (.ireturn, 1) := by decide +kernel
theorem dJ1_charAt_3b067_0 : decode cJ1_charAt_3b067 0 = .ok (.iload_n 1, 1) := by decide +kernel
theorem dJ1_charAt_3b067_1 : decode cJ1_charAt_3b067 1 = .ok (.aload_n 0, 1) := by decide +kernel
theorem dJ1_charAt_3b067_2 : decode cJ1_charAt_3b067 2 = .ok (.arraylength, 1) := by decide +kernel
theorem dJ1_charAt_3b067_3 : decode cJ1_charAt_3b067 3 = .ok (.invokestatic 9, 3) := by decide +kernel
theorem dJ1_charAt_3b067_6 : decode cJ1_charAt_3b067 6 = .ok (.aload_n 0, 1) := by decide +kernel
theorem dJ1_charAt_3b067_7 : decode cJ1_charAt_3b067 7 = .ok (.iload_n 1, 1) := by decide +kernel
theorem dJ1_charAt_3b067_8 : decode cJ1_charAt_3b067 8 = .ok (.baload, 1) := by decide +kernel
theorem dJ1_charAt_3b067_9 : decode cJ1_charAt_3b067 9 = .ok (.sipush 255, 3) := by decide +kernel
theorem dJ1_charAt_3b067_12 : decode cJ1_charAt_3b067 12 = .ok (.iand, 1) := by decide +kernel
theorem dJ1_charAt_3b067_13 : decode cJ1_charAt_3b067 13 = .ok (.i2c, 1) := by decide +kernel
theorem dJ1_charAt_3b067_14 : decode cJ1_charAt_3b067 14 = .ok (.ireturn, 1) := by decide +kernel
theorem dJ2_charAt_3b067_0 : decode cJ2_charAt_3b067 0 = .ok (.iload_n 1, 1) := by decide +kernel
theorem dJ2_charAt_3b067_1 : decode cJ2_charAt_3b067 1 = .ok (.aload_n 0, 1) := by decide +kernel
theorem dJ2_charAt_3b067_2 : decode cJ2_charAt_3b067 2 = .ok (.invokestatic 67, 3) := by decide +kernel
theorem dJ2_charAt_3b067_5 : decode cJ2_charAt_3b067 5 = .ok (.aload_n 0, 1) := by decide +kernel
theorem dJ2_charAt_3b067_6 : decode cJ2_charAt_3b067 6 = .ok (.iload_n 1, 1) := by decide +kernel
theorem dJ2_charAt_3b067_7 : decode cJ2_charAt_3b067 7 = .ok (.invokestatic 71, 3) := by decide +kernel
theorem dJ2_charAt_3b067_10 : decode cJ2_charAt_3b067 10 = .ok (.ireturn, 1) := by decide +kernel
theorem dJ2_checkIndex_2214a_0 : decode cJ2_checkIndex_2214a 0 = .ok (.iload_n 0, 1) := by decide +kernel
theorem dJ2_checkIndex_2214a_1 : decode cJ2_checkIndex_2214a 1 = .ok (.aload_n 1, 1) := by decide +kernel
theorem dJ2_checkIndex_2214a_2 : decode cJ2_checkIndex_2214a 2 = .ok (.invokestatic 48, 3) := by decide +kernel
theorem dJ2_checkIndex_2214a_5 : decode cJ2_checkIndex_2214a 5 = .ok (.invokestatic 414, 3) := by decide +kernel
theorem dJ2_checkIndex_2214a_8 : decode cJ2_checkIndex_2214a 8 = .ok (.return_, 1) := by decide +kernel
theorem dJ2_getChar_3b067_0 : decode cJ2_getChar_3b067 0 = .ok (.getstatic 44, 3) := by decide +kernel
theorem dJ2_getChar_3b067_3 : decode cJ2_getChar_3b067 3 = .ok (.ifCond .ne 25, 3) := by decide +kernel
theorem dJ2_getChar_3b067_6 : decode cJ2_getChar_3b067 6 = .ok (.iload_n 1, 1) := by decide +kernel
theorem dJ2_getChar_3b067_7 : decode cJ2_getChar_3b067 7 = .ok (.ifCond .lt 11, 3) := by decide +kernel
theorem dJ2_getChar_3b067_10 : decode cJ2_getChar_3b067 10 = .ok (.iload_n 1, 1) := by decide +kernel
theorem dJ2_getChar_3b067_11 : decode cJ2_getChar_3b067 11 = .ok (.aload_n 0, 1) := by decide +kernel
theorem dJ2_getChar_3b067_12 : decode cJ2_getChar_3b067 12 = .ok (.invokestatic 48, 3) := by decide +kernel
theorem dJ2_getChar_3b067_15 : decode cJ2_getChar_3b067 15 = .ok (.if_icmp .lt 13, 3) := by decide +kernel
theorem dJ2_getChar_3b067_18 : decode cJ2_getChar_3b067 18 = .ok (.new 52, 3) := by decide +kernel
theorem dJ2_getChar_3b067_21 : decode cJ2_getChar_3b067 21 = .ok (.dup, 1) := by decide +kernel
theorem dJ2_getChar_3b067_22 : decode cJ2_getChar_3b067 22 = .ok (.ldc 54, 2) := by decide +kernel
theorem dJ2_getChar_3b067_24 : decode cJ2_getChar_3b067 24 = .ok (.invokespecial 56, 3) := by decide +kernel
theorem dJ2_getChar_3b067_27 : decode cJ2_getChar_3b067 27 = .ok (.athrow, 1) := by decide +kernel
theorem dJ2_getChar_3b067_28 : decode cJ2_getChar_3b067 28 = .ok (.iload_n 1, 1) := by decide +kernel
theorem dJ2_getChar_3b067_29 : decode cJ2_getChar_3b067 29 = .ok (.iconst 1, 1) := by decide +kernel
theorem dJ2_getChar_3b067_30 : decode cJ2_getChar_3b067 30 = .ok (.ishl, 1) := by decide +kernel
theorem dJ2_getChar_3b067_31 : decode cJ2_getChar_3b067 31 = .ok (.istore_n 1, 1) := by decide +kernel
theorem dJ2_getChar_3b067_32 : decode cJ2_getChar_3b067 32 = .ok (.aload_n 0, 1) := by decide +kernel
theorem dJ2_getChar_3b067_33 : decode cJ2_getChar_3b067 33 = .ok (.iload_n 1, 1) := by decide +kernel
theorem dJ2_getChar_3b067_34 : decode cJ2_getChar_3b067 34 = .ok (.iinc 1 1, 3) := by decide +kernel
theorem dJ2_getChar_3b067_37 : decode cJ2_getChar_3b067 37 = .ok (.baload, 1) := by decide +kernel
theorem dJ2_getChar_3b067_38 : decode cJ2_getChar_3b067 38 = .ok (.sipush 255, 3) := by decide +kernel
theorem dJ2_getChar_3b067_41 : decode cJ2_getChar_3b067 41 = .ok (.iand, 1) := by decide +kernel
theorem dJ2_getChar_3b067_42 : decode cJ2_getChar_3b067 42 = .ok (.getstatic 59, 3) := by decide +kernel
theorem dJ2_getChar_3b067_45 : decode cJ2_getChar_3b067 45 = .ok (.ishl, 1) := by decide +kernel
theorem dJ2_getChar_3b067_46 : decode cJ2_getChar_3b067 46 = .ok (.aload_n 0, 1) := by decide +kernel
theorem dJ2_getChar_3b067_47 : decode cJ2_getChar_3b067 47 = .ok (.iload_n 1, 1) := by decide +kernel
theorem dJ2_getChar_3b067_48 : decode cJ2_getChar_3b067 48 = .ok (.baload, 1) := by decide +kernel
theorem dJ2_getChar_3b067_49 : decode cJ2_getChar_3b067 49 = .ok (.sipush 255, 3) := by decide +kernel
theorem dJ2_getChar_3b067_52 : decode cJ2_getChar_3b067 52 = .ok (.iand, 1) := by decide +kernel
theorem dJ2_getChar_3b067_53 : decode cJ2_getChar_3b067 53 = .ok (.getstatic 63, 3) := by decide +kernel
theorem dJ2_getChar_3b067_56 : decode cJ2_getChar_3b067 56 = .ok (.ishl, 1) := by decide +kernel
theorem dJ2_getChar_3b067_57 : decode cJ2_getChar_3b067 57 = .ok (.ior, 1) := by decide +kernel
theorem dJ2_getChar_3b067_58 : decode cJ2_getChar_3b067 58 = .ok (.i2c, 1) := by decide +kernel
theorem dJ2_getChar_3b067_59 : decode cJ2_getChar_3b067 59 = .ok (.ireturn, 1) := by decide +kernel
theorem dJ2_length_9d52b_0 : decode cJ2_length_9d52b 0 = .ok (.aload_n 0, 1) := by decide +kernel
theorem dJ2_length_9d52b_1 : decode cJ2_length_9d52b 1 = .ok (.arraylength, 1) := by decide +kernel
theorem dJ2_length_9d52b_2 : decode cJ2_length_9d52b 2 = .ok (.iconst 1, 1) := by decide +kernel
theorem dJ2_length_9d52b_3 : decode cJ2_length_9d52b 3 = .ok (.ishr, 1) := by decide +kernel
theorem dJ2_length_9d52b_4 : decode cJ2_length_9d52b 4 = .ok (.ireturn, 1) := by decide +kernel
theorem dJ3_checkIndex_8e157_0 : decode cJ3_checkIndex_8e157 0 = .ok (.iload_n 0, 1) := by decide +kernel
theorem dJ3_checkIndex_8e157_1 : decode cJ3_checkIndex_8e157 1 = .ok (.ifCond .lt 8, 3) := by decide +kernel
theorem dJ3_checkIndex_8e157_4 : decode cJ3_checkIndex_8e157 4 = .ok (.iload_n 0, 1) := by decide +kernel
theorem dJ3_checkIndex_8e157_5 : decode cJ3_checkIndex_8e157 5 = .ok (.iload_n 1, 1) := by decide +kernel
theorem dJ3_checkIndex_8e157_6 : decode cJ3_checkIndex_8e157 6 = .ok (.if_icmp .lt 10, 3) := by decide +kernel
theorem dJ3_checkIndex_8e157_9 : decode cJ3_checkIndex_8e157 9 = .ok (.aload_n 2, 1) := by decide +kernel
theorem dJ3_checkIndex_8e157_10 : decode cJ3_checkIndex_8e157 10 = .ok (.iload_n 0, 1) := by decide +kernel
theorem dJ3_checkIndex_8e157_11 : decode cJ3_checkIndex_8e157 11 = .ok (.iload_n 1, 1) := by decide +kernel
theorem dJ3_checkIndex_8e157_12 : decode cJ3_checkIndex_8e157 12 = .ok (.invokestatic 95, 3) := by decide +kernel
theorem dJ3_checkIndex_8e157_15 : decode cJ3_checkIndex_8e157 15 = .ok (.athrow, 1) := by decide +kernel
theorem dJ3_checkIndex_8e157_16 : decode cJ3_checkIndex_8e157 16 = .ok (.iload_n 0, 1) := by decide +kernel
theorem dJ3_checkIndex_8e157_17 : decode cJ3_checkIndex_8e157 17 = .ok (.ireturn, 1) := by decide +kernel
theorem dJ6_bitCount_0f7a4_0 : decode cJ6_bitCount_0f7a4 0 = .ok (.iload_n 0, 1) := by decide +kernel
theorem dJ6_bitCount_0f7a4_1 : decode cJ6_bitCount_0f7a4 1 = .ok (.iload_n 0, 1) := by decide +kernel
theorem dJ6_bitCount_0f7a4_2 : decode cJ6_bitCount_0f7a4 2 = .ok (.iconst 1, 1) := by decide +kernel
theorem dJ6_bitCount_0f7a4_3 : decode cJ6_bitCount_0f7a4 3 = .ok (.iushr, 1) := by decide +kernel
theorem dJ6_bitCount_0f7a4_4 : decode cJ6_bitCount_0f7a4 4 = .ok (.ldc_w 265, 3) := by decide +kernel
theorem dJ6_bitCount_0f7a4_7 : decode cJ6_bitCount_0f7a4 7 = .ok (.iand, 1) := by decide +kernel
theorem dJ6_bitCount_0f7a4_8 : decode cJ6_bitCount_0f7a4 8 = .ok (.isub, 1) := by decide +kernel
theorem dJ6_bitCount_0f7a4_9 : decode cJ6_bitCount_0f7a4 9 = .ok (.istore_n 0, 1) := by decide +kernel
theorem dJ6_bitCount_0f7a4_10 : decode cJ6_bitCount_0f7a4 10 = .ok (.iload_n 0, 1) := by decide +kernel
theorem dJ6_bitCount_0f7a4_11 : decode cJ6_bitCount_0f7a4 11 = .ok (.ldc_w 266, 3) := by decide +kernel
theorem dJ6_bitCount_0f7a4_14 : decode cJ6_bitCount_0f7a4 14 = .ok (.iand, 1) := by decide +kernel
theorem dJ6_bitCount_0f7a4_15 : decode cJ6_bitCount_0f7a4 15 = .ok (.iload_n 0, 1) := by decide +kernel
theorem dJ6_bitCount_0f7a4_16 : decode cJ6_bitCount_0f7a4 16 = .ok (.iconst 2, 1) := by decide +kernel
theorem dJ6_bitCount_0f7a4_17 : decode cJ6_bitCount_0f7a4 17 = .ok (.iushr, 1) := by decide +kernel
theorem dJ6_bitCount_0f7a4_18 : decode cJ6_bitCount_0f7a4 18 = .ok (.ldc_w 266, 3) := by decide +kernel
theorem dJ6_bitCount_0f7a4_21 : decode cJ6_bitCount_0f7a4 21 = .ok (.iand, 1) := by decide +kernel
theorem dJ6_bitCount_0f7a4_22 : decode cJ6_bitCount_0f7a4 22 = .ok (.iadd, 1) := by decide +kernel
theorem dJ6_bitCount_0f7a4_23 : decode cJ6_bitCount_0f7a4 23 = .ok (.istore_n 0, 1) := by decide +kernel
theorem dJ6_bitCount_0f7a4_24 : decode cJ6_bitCount_0f7a4 24 = .ok (.iload_n 0, 1) := by decide +kernel
theorem dJ6_bitCount_0f7a4_25 : decode cJ6_bitCount_0f7a4 25 = .ok (.iload_n 0, 1) := by decide +kernel
theorem dJ6_bitCount_0f7a4_26 : decode cJ6_bitCount_0f7a4 26 = .ok (.iconst 4, 1) := by decide +kernel
theorem dJ6_bitCount_0f7a4_27 : decode cJ6_bitCount_0f7a4 27 = .ok (.iushr, 1) := by decide +kernel
theorem dJ6_bitCount_0f7a4_28 : decode cJ6_bitCount_0f7a4 28 = .ok (.iadd, 1) := by decide +kernel
theorem dJ6_bitCount_0f7a4_29 : decode cJ6_bitCount_0f7a4 29 = .ok (.ldc_w 267, 3) := by decide +kernel
theorem dJ6_bitCount_0f7a4_32 : decode cJ6_bitCount_0f7a4 32 = .ok (.iand, 1) := by decide +kernel
theorem dJ6_bitCount_0f7a4_33 : decode cJ6_bitCount_0f7a4 33 = .ok (.istore_n 0, 1) := by decide +kernel
theorem dJ6_bitCount_0f7a4_34 : decode cJ6_bitCount_0f7a4 34 = .ok (.iload_n 0, 1) := by decide +kernel
theorem dJ6_bitCount_0f7a4_35 : decode cJ6_bitCount_0f7a4 35 = .ok (.iload_n 0, 1) := by decide +kernel
theorem dJ6_bitCount_0f7a4_36 : decode cJ6_bitCount_0f7a4 36 = .ok (.bipush 8, 2) := by decide +kernel
theorem dJ6_bitCount_0f7a4_38 : decode cJ6_bitCount_0f7a4 38 = .ok (.iushr, 1) := by decide +kernel
theorem dJ6_bitCount_0f7a4_39 : decode cJ6_bitCount_0f7a4 39 = .ok (.iadd, 1) := by decide +kernel
theorem dJ6_bitCount_0f7a4_40 : decode cJ6_bitCount_0f7a4 40 = .ok (.istore_n 0, 1) := by decide +kernel
theorem dJ6_bitCount_0f7a4_41 : decode cJ6_bitCount_0f7a4 41 = .ok (.iload_n 0, 1) := by decide +kernel
theorem dJ6_bitCount_0f7a4_42 : decode cJ6_bitCount_0f7a4 42 = .ok (.iload_n 0, 1) := by decide +kernel
theorem dJ6_bitCount_0f7a4_43 : decode cJ6_bitCount_0f7a4 43 = .ok (.bipush 16, 2) := by decide +kernel
theorem dJ6_bitCount_0f7a4_45 : decode cJ6_bitCount_0f7a4 45 = .ok (.iushr, 1) := by decide +kernel
theorem dJ6_bitCount_0f7a4_46 : decode cJ6_bitCount_0f7a4 46 = .ok (.iadd, 1) := by decide +kernel
theorem dJ6_bitCount_0f7a4_47 : decode cJ6_bitCount_0f7a4 47 = .ok (.istore_n 0, 1) := by decide +kernel
theorem dJ6_bitCount_0f7a4_48 : decode cJ6_bitCount_0f7a4 48 = .ok (.iload_n 0, 1) := by decide +kernel
theorem dJ6_bitCount_0f7a4_49 : decode cJ6_bitCount_0f7a4 49 = .ok (.bipush 63, 2) := by decide +kernel
theorem dJ6_bitCount_0f7a4_51 : decode cJ6_bitCount_0f7a4 51 = .ok (.iand, 1) := by decide +kernel
theorem dJ6_bitCount_0f7a4_52 : decode cJ6_bitCount_0f7a4 52 = .ok (.ireturn, 1) := by decide +kernel
theorem dJ7_fill_53178_0 : decode cJ7_fill_53178 0 = .ok (.iconst 0, 1) := by decide +kernel
theorem dJ7_fill_53178_1 : decode cJ7_fill_53178 1 = .ok (.istore_n 2, 1) := by decide +kernel
theorem dJ7_fill_53178_2 : decode cJ7_fill_53178 2 = .ok (.aload_n 0, 1) := by decide +kernel
theorem dJ7_fill_53178_3 : decode cJ7_fill_53178 3 = .ok (.arraylength, 1) := by decide +kernel
theorem dJ7_fill_53178_4 : decode cJ7_fill_53178 4 = .ok (.istore_n 3, 1) := by decide +kernel
theorem dJ7_fill_53178_5 : decode cJ7_fill_53178 5 = .ok (.iload_n 2, 1) := by decide +kernel
theorem dJ7_fill_53178_6 : decode cJ7_fill_53178 6 = .ok (.iload_n 3, 1) := by decide +kernel
theorem dJ7_fill_53178_7 : decode cJ7_fill_53178 7 = .ok (.if_icmp .ge 13, 3) := by decide +kernel
theorem dJ7_fill_53178_10 : decode cJ7_fill_53178 10 = .ok (.aload_n 0, 1) := by decide +kernel
theorem dJ7_fill_53178_11 : decode cJ7_fill_53178 11 = .ok (.iload_n 2, 1) := by decide +kernel
theorem dJ7_fill_53178_12 : decode cJ7_fill_53178 12 = .ok (.iload_n 1, 1) := by decide +kernel
theorem dJ7_fill_53178_13 : decode cJ7_fill_53178 13 = .ok (.iastore, 1) := by decide +kernel
theorem dJ7_fill_53178_14 : decode cJ7_fill_53178 14 = .ok (.iinc 2 1, 3) := by decide +kernel
theorem dJ7_fill_53178_17 : decode cJ7_fill_53178 17 = .ok (.goto (-12), 3) := by decide +kernel
theorem dJ7_fill_53178_20 : decode cJ7_fill_53178 20 = .ok (.return_, 1) := by decide +kernel
theorem dJ7_fill_d0a16_0 : decode cJ7_fill_d0a16 0 = .ok (.iconst 0, 1) := by decide +kernel
theorem dJ7_fill_d0a16_1 : decode cJ7_fill_d0a16 1 = .ok (.istore_n 3, 1) := by decide +kernel
theorem dJ7_fill_d0a16_2 : decode cJ7_fill_d0a16 2 = .ok (.aload_n 0, 1) := by decide +kernel
theorem dJ7_fill_d0a16_3 : decode cJ7_fill_d0a16 3 = .ok (.arraylength, 1) := by decide +kernel
theorem dJ7_fill_d0a16_4 : decode cJ7_fill_d0a16 4 = .ok (.istore 4, 2) := by decide +kernel
theorem dJ7_fill_d0a16_6 : decode cJ7_fill_d0a16 6 = .ok (.iload_n 3, 1) := by decide +kernel
theorem dJ7_fill_d0a16_7 : decode cJ7_fill_d0a16 7 = .ok (.iload 4, 2) := by decide +kernel
theorem dJ7_fill_d0a16_9 : decode cJ7_fill_d0a16 9 = .ok (.if_icmp .ge 13, 3) := by decide +kernel
theorem dJ7_fill_d0a16_12 : decode cJ7_fill_d0a16 12 = .ok (.aload_n 0, 1) := by decide +kernel
theorem dJ7_fill_d0a16_13 : decode cJ7_fill_d0a16 13 = .ok (.iload_n 3, 1) := by decide +kernel
theorem dJ7_fill_d0a16_14 : decode cJ7_fill_d0a16 14 = .ok (.lload_n 1, 1) := by decide +kernel
theorem dJ7_fill_d0a16_15 : decode cJ7_fill_d0a16 15 = .ok (.lastore, 1) := by decide +kernel
theorem dJ7_fill_d0a16_16 : decode cJ7_fill_d0a16 16 = .ok (.iinc 3 1, 3) := by decide +kernel
theorem dJ7_fill_d0a16_19 : decode cJ7_fill_d0a16 19 = .ok (.goto (-13), 3) := by decide +kernel
theorem dJ7_fill_d0a16_22 : decode cJ7_fill_d0a16 22 = .ok (.return_, 1) := by decide +kernel
theorem dJ9_max_7cf53_0 : decode cJ9_max_7cf53 0 = .ok (.iload_n 0, 1) := by decide +kernel
theorem dJ9_max_7cf53_1 : decode cJ9_max_7cf53 1 = .ok (.iload_n 1, 1) := by decide +kernel
theorem dJ9_max_7cf53_2 : decode cJ9_max_7cf53 2 = .ok (.if_icmp .lt 7, 3) := by decide +kernel
theorem dJ9_max_7cf53_5 : decode cJ9_max_7cf53 5 = .ok (.iload_n 0, 1) := by decide +kernel
theorem dJ9_max_7cf53_6 : decode cJ9_max_7cf53 6 = .ok (.goto 4, 3) := by decide +kernel
theorem dJ9_max_7cf53_9 : decode cJ9_max_7cf53 9 = .ok (.iload_n 1, 1) := by decide +kernel
theorem dJ9_max_7cf53_10 : decode cJ9_max_7cf53 10 = .ok (.ireturn, 1) := by decide +kernel
theorem dJ9_min_7cf53_0 : decode cJ9_min_7cf53 0 = .ok (.iload_n 0, 1) := by decide +kernel
theorem dJ9_min_7cf53_1 : decode cJ9_min_7cf53 1 = .ok (.iload_n 1, 1) := by decide +kernel
theorem dJ9_min_7cf53_2 : decode cJ9_min_7cf53 2 = .ok (.if_icmp .gt 7, 3) := by decide +kernel
theorem dJ9_min_7cf53_5 : decode cJ9_min_7cf53 5 = .ok (.iload_n 0, 1) := by decide +kernel
theorem dJ9_min_7cf53_6 : decode cJ9_min_7cf53 6 = .ok (.goto 4, 3) := by decide +kernel
theorem dJ9_min_7cf53_9 : decode cJ9_min_7cf53 9 = .ok (.iload_n 1, 1) := by decide +kernel
theorem dJ9_min_7cf53_10 : decode cJ9_min_7cf53 10 = .ok (.ireturn, 1) := by decide +kernel
theorem dX0_add_0 : decode cX0_add 0 = .ok (.aload_n 0, 1) := by decide +kernel
theorem dX0_add_1 : decode cX0_add 1 = .ok (.getfield 15, 3) := by decide +kernel
theorem dX0_add_4 : decode cX0_add 4 = .ok (.bipush 60, 2) := by decide +kernel
theorem dX0_add_6 : decode cX0_add 6 = .ok (.if_icmp .lt 4, 3) := by decide +kernel
theorem dX0_add_9 : decode cX0_add 9 = .ok (.return_, 1) := by decide +kernel
theorem dX0_add_10 : decode cX0_add 10 = .ok (.aload_n 0, 1) := by decide +kernel
theorem dX0_add_11 : decode cX0_add 11 = .ok (.getfield 15, 3) := by decide +kernel
theorem dX0_add_14 : decode cX0_add 14 = .ok (.iconst 4, 1) := by decide +kernel
theorem dX0_add_15 : decode cX0_add 15 = .ok (.imul, 1) := by decide +kernel
theorem dX0_add_16 : decode cX0_add 16 = .ok (.istore 5, 2) := by decide +kernel
theorem dX0_add_18 : decode cX0_add 18 = .ok (.aload_n 0, 1) := by decide +kernel
theorem dX0_add_19 : decode cX0_add 19 = .ok (.getfield 11, 3) := by decide +kernel
theorem dX0_add_22 : decode cX0_add 22 = .ok (.iload 5, 2) := by decide +kernel
theorem dX0_add_24 : decode cX0_add 24 = .ok (.iload_n 1, 1) := by decide +kernel
theorem dX0_add_25 : decode cX0_add 25 = .ok (.iastore, 1) := by decide +kernel
theorem dX0_add_26 : decode cX0_add 26 = .ok (.aload_n 0, 1) := by decide +kernel
theorem dX0_add_27 : decode cX0_add 27 = .ok (.getfield 11, 3) := by decide +kernel
theorem dX0_add_30 : decode cX0_add 30 = .ok (.iload 5, 2) := by decide +kernel
theorem dX0_add_32 : decode cX0_add 32 = .ok (.iconst 1, 1) := by decide +kernel
theorem dX0_add_33 : decode cX0_add 33 = .ok (.iadd, 1) := by decide +kernel
theorem dX0_add_34 : decode cX0_add 34 = .ok (.iload_n 2, 1) := by decide +kernel
theorem dX0_add_35 : decode cX0_add 35 = .ok (.iastore, 1) := by decide +kernel
theorem dX0_add_36 : decode cX0_add 36 = .ok (.aload_n 0, 1) := by decide +kernel
theorem dX0_add_37 : decode cX0_add 37 = .ok (.getfield 11, 3) := by decide +kernel
theorem dX0_add_40 : decode cX0_add 40 = .ok (.iload 5, 2) := by decide +kernel
theorem dX0_add_42 : decode cX0_add 42 = .ok (.iconst 2, 1) := by decide +kernel
theorem dX0_add_43 : decode cX0_add 43 = .ok (.iadd, 1) := by decide +kernel
theorem dX0_add_44 : decode cX0_add 44 = .ok (.iload_n 3, 1) := by decide +kernel
theorem dX0_add_45 : decode cX0_add 45 = .ok (.iastore, 1) := by decide +kernel
theorem dX0_add_46 : decode cX0_add 46 = .ok (.aload_n 0, 1) := by decide +kernel
theorem dX0_add_47 : decode cX0_add 47 = .ok (.getfield 11, 3) := by decide +kernel
theorem dX0_add_50 : decode cX0_add 50 = .ok (.iload 5, 2) := by decide +kernel
theorem dX0_add_52 : decode cX0_add 52 = .ok (.iconst 3, 1) := by decide +kernel
theorem dX0_add_53 : decode cX0_add 53 = .ok (.iadd, 1) := by decide +kernel
theorem dX0_add_54 : decode cX0_add 54 = .ok (.iload 4, 2) := by decide +kernel
theorem dX0_add_56 : decode cX0_add 56 = .ok (.iastore, 1) := by decide +kernel
theorem dX0_add_57 : decode cX0_add 57 = .ok (.aload_n 0, 1) := by decide +kernel
theorem dX0_add_58 : decode cX0_add 58 = .ok (.dup, 1) := by decide +kernel
theorem dX0_add_59 : decode cX0_add 59 = .ok (.getfield 15, 3) := by decide +kernel
theorem dX0_add_62 : decode cX0_add 62 = .ok (.iconst 1, 1) := by decide +kernel
theorem dX0_add_63 : decode cX0_add 63 = .ok (.iadd, 1) := by decide +kernel
theorem dX0_add_64 : decode cX0_add 64 = .ok (.putfield 15, 3) := by decide +kernel
theorem dX0_add_67 : decode cX0_add 67 = .ok (.return_, 1) := by decide +kernel
theorem dX0_copyFrom_0 : decode cX0_copyFrom 0 = .ok (.aload_n 0, 1) := by decide +kernel
theorem dX0_copyFrom_1 : decode cX0_copyFrom 1 = .ok (.aload_n 1, 1) := by decide +kernel
theorem dX0_copyFrom_2 : decode cX0_copyFrom 2 = .ok (.getfield 15, 3) := by decide +kernel
theorem dX0_copyFrom_5 : decode cX0_copyFrom 5 = .ok (.putfield 15, 3) := by decide +kernel
theorem dX0_copyFrom_8 : decode cX0_copyFrom 8 = .ok (.aload_n 1, 1) := by decide +kernel
theorem dX0_copyFrom_9 : decode cX0_copyFrom 9 = .ok (.getfield 11, 3) := by decide +kernel
theorem dX0_copyFrom_12 : decode cX0_copyFrom 12 = .ok (.iconst 0, 1) := by decide +kernel
theorem dX0_copyFrom_13 : decode cX0_copyFrom 13 = .ok (.aload_n 0, 1) := by decide +kernel
theorem dX0_copyFrom_14 : decode cX0_copyFrom 14 = .ok (.getfield 11, 3) := by decide +kernel
theorem dX0_copyFrom_17 : decode cX0_copyFrom 17 = .ok (.iconst 0, 1) := by decide +kernel
theorem dX0_copyFrom_18 : decode cX0_copyFrom 18 = .ok (.sipush 240, 3) := by decide +kernel
theorem dX0_copyFrom_21 : decode cX0_copyFrom 21 = .ok (.invokestatic 19, 3) := by decide +kernel
theorem dX0_copyFrom_24 : decode cX0_copyFrom 24 = .ok (.return_, 1) := by decide +kernel
theorem dX0_init_0 : decode cX0_init 0 = .ok (.aload_n 0, 1) := by decide +kernel
theorem dX0_init_1 : decode cX0_init 1 = .ok (.invokespecial 3, 3) := by decide +kernel
theorem dX0_init_4 : decode cX0_init 4 = .ok (.aload_n 0, 1) := by decide +kernel
theorem dX0_init_5 : decode cX0_init 5 = .ok (.sipush 240, 3) := by decide +kernel
theorem dX0_init_8 : decode cX0_init 8 = .ok (.newarray .int, 2) := by decide +kernel
theorem dX0_init_10 : decode cX0_init 10 = .ok (.putfield 11, 3) := by decide +kernel
theorem dX0_init_13 : decode cX0_init 13 = .ok (.return_, 1) := by decide +kernel
theorem dX0_replay_0 : decode cX0_replay 0 = .ok (.aload_n 1, 1) := by decide +kernel
theorem dX0_replay_1 : decode cX0_replay 1 = .ok (.invokevirtual 25, 3) := by decide +kernel
theorem dX0_replay_4 : decode cX0_replay 4 = .ok (.iconst 0, 1) := by decide +kernel
theorem dX0_replay_5 : decode cX0_replay 5 = .ok (.istore_n 2, 1) := by decide +kernel
theorem dX0_replay_6 : decode cX0_replay 6 = .ok (.iload_n 2, 1) := by decide +kernel
theorem dX0_replay_7 : decode cX0_replay 7 = .ok (.aload_n 0, 1) := by decide +kernel
theorem dX0_replay_8 : decode cX0_replay 8 = .ok (.getfield 15, 3) := by decide +kernel
theorem dX0_replay_11 : decode cX0_replay 11 = .ok (.if_icmp .ge 48, 3) := by decide +kernel
theorem dX0_replay_14 : decode cX0_replay 14 = .ok (.iload_n 2, 1) := by decide +kernel
theorem dX0_replay_15 : decode cX0_replay 15 = .ok (.iconst 4, 1) := by decide +kernel
theorem dX0_replay_16 : decode cX0_replay 16 = .ok (.imul, 1) := by decide +kernel
theorem dX0_replay_17 : decode cX0_replay 17 = .ok (.istore_n 3, 1) := by decide +kernel
theorem dX0_replay_18 : decode cX0_replay 18 = .ok (.aload_n 1, 1) := by decide +kernel
theorem dX0_replay_19 : decode cX0_replay 19 = .ok (.aload_n 0, 1) := by decide +kernel
theorem dX0_replay_20 : decode cX0_replay 20 = .ok (.getfield 11, 3) := by decide +kernel
theorem dX0_replay_23 : decode cX0_replay 23 = .ok (.iload_n 3, 1) := by decide +kernel
theorem dX0_replay_24 : decode cX0_replay 24 = .ok (.iaload, 1) := by decide +kernel
theorem dX0_replay_25 : decode cX0_replay 25 = .ok (.aload_n 0, 1) := by decide +kernel
theorem dX0_replay_26 : decode cX0_replay 26 = .ok (.getfield 11, 3) := by decide +kernel
theorem dX0_replay_29 : decode cX0_replay 29 = .ok (.iload_n 3, 1) := by decide +kernel
theorem dX0_replay_30 : decode cX0_replay 30 = .ok (.iconst 1, 1) := by decide +kernel
theorem dX0_replay_31 : decode cX0_replay 31 = .ok (.iadd, 1) := by decide +kernel
theorem dX0_replay_32 : decode cX0_replay 32 = .ok (.iaload, 1) := by decide +kernel
theorem dX0_replay_33 : decode cX0_replay 33 = .ok (.aload_n 0, 1) := by decide +kernel
theorem dX0_replay_34 : decode cX0_replay 34 = .ok (.getfield 11, 3) := by decide +kernel
theorem dX0_replay_37 : decode cX0_replay 37 = .ok (.iload_n 3, 1) := by decide +kernel
theorem dX0_replay_38 : decode cX0_replay 38 = .ok (.iconst 2, 1) := by decide +kernel
theorem dX0_replay_39 : decode cX0_replay 39 = .ok (.iadd, 1) := by decide +kernel
theorem dX0_replay_40 : decode cX0_replay 40 = .ok (.iaload, 1) := by decide +kernel
theorem dX0_replay_41 : decode cX0_replay 41 = .ok (.aload_n 0, 1) := by decide +kernel
theorem dX0_replay_42 : decode cX0_replay 42 = .ok (.getfield 11, 3) := by decide +kernel
theorem dX0_replay_45 : decode cX0_replay 45 = .ok (.iload_n 3, 1) := by decide +kernel
theorem dX0_replay_46 : decode cX0_replay 46 = .ok (.iconst 3, 1) := by decide +kernel
theorem dX0_replay_47 : decode cX0_replay 47 = .ok (.iadd, 1) := by decide +kernel
theorem dX0_replay_48 : decode cX0_replay 48 = .ok (.iaload, 1) := by decide +kernel
theorem dX0_replay_49 : decode cX0_replay 49 = .ok (.invokevirtual 30, 3) := by decide +kernel
theorem dX0_replay_52 : decode cX0_replay 52 = .ok (.pop, 1) := by decide +kernel
theorem dX0_replay_53 : decode cX0_replay 53 = .ok (.iinc 2 1, 3) := by decide +kernel
theorem dX0_replay_56 : decode cX0_replay 56 = .ok (.goto (-50), 3) := by decide +kernel
theorem dX0_replay_59 : decode cX0_replay 59 = .ok (.return_, 1) := by decide +kernel
theorem dX10_anew_0 : decode cX10_anew 0 = .ok (.aload_n 0, 1) := by decide +kernel
theorem dX10_anew_1 : decode cX10_anew 1 = .ok (.invokevirtual 203, 3) := by decide +kernel
theorem dX10_anew_4 : decode cX10_anew 4 = .ok (.ifCond .ne 6, 3) := by decide +kernel
theorem dX10_anew_7 : decode cX10_anew 7 = .ok (.bipush (-2), 2) := by decide +kernel
theorem dX10_anew_9 : decode cX10_anew 9 = .ok (.ireturn, 1) := by decide +kernel
theorem dX10_anew_10 : decode cX10_anew 10 = .ok (.aload_n 0, 1) := by decide +kernel
theorem dX10_anew_11 : decode cX10_anew 11 = .ok (.getfield 29, 3) := by decide +kernel
theorem dX10_anew_14 : decode cX10_anew 14 = .ok (.getfield 106, 3) := by decide +kernel
theorem dX10_anew_17 : decode cX10_anew 17 = .ok (.istore_n 1, 1) := by decide +kernel
theorem dX10_anew_18 : decode cX10_anew 18 = .ok (.aload_n 0, 1) := by decide +kernel
theorem dX10_anew_19 : decode cX10_anew 19 = .ok (.getfield 29, 3) := by decide +kernel
theorem dX10_anew_22 : decode cX10_anew 22 = .ok (.iconst 0, 1) := by decide +kernel
theorem dX10_anew_23 : decode cX10_anew 23 = .ok (.putfield 106, 3) := by decide +kernel
theorem dX10_anew_26 : decode cX10_anew 26 = .ok (.aload_n 0, 1) := by decide +kernel
theorem dX10_anew_27 : decode cX10_anew 27 = .ok (.getfield 38, 3) := by decide +kernel
theorem dX10_anew_30 : decode cX10_anew 30 = .ok (.invokevirtual 109, 3) := by decide +kernel
theorem dX10_anew_33 : decode cX10_anew 33 = .ok (.iload_n 1, 1) := by decide +kernel
theorem dX10_anew_34 : decode cX10_anew 34 = .ok (.ireturn, 1) := by decide +kernel
theorem dX10_argued_0 : decode cX10_argued 0 = .ok (.aload_n 0, 1) := by decide +kernel
theorem dX10_argued_1 : decode cX10_argued 1 = .ok (.iload_n 1, 1) := by decide +kernel
theorem dX10_argued_2 : decode cX10_argued 2 = .ok (.invokevirtual 321, 3) := by decide +kernel
theorem dX10_argued_5 : decode cX10_argued 5 = .ok (.istore_n 2, 1) := by decide +kernel
theorem dX10_argued_6 : decode cX10_argued 6 = .ok (.iload_n 2, 1) := by decide +kernel
theorem dX10_argued_7 : decode cX10_argued 7 = .ok (.ifCond .ne 13, 3) := by decide +kernel
theorem dX10_argued_10 : decode cX10_argued 10 = .ok (.aload_n 0, 1) := by decide +kernel
theorem dX10_argued_11 : decode cX10_argued 11 = .ok (.getfield 69, 3) := by decide +kernel
theorem dX10_argued_14 : decode cX10_argued 14 = .ok (.getfield 330, 3) := by decide +kernel
theorem dX10_argued_17 : decode cX10_argued 17 = .ok (.goto 4, 3) := by decide +kernel
theorem dX10_argued_20 : decode cX10_argued 20 = .ok (.iload_n 2, 1) := by decide +kernel
theorem dX10_argued_21 : decode cX10_argued 21 = .ok (.ireturn, 1) := by decide +kernel
theorem dX10_back_0 : decode cX10_back 0 = .ok (.iload_n 1, 1) := by decide +kernel
theorem dX10_back_1 : decode cX10_back 1 = .ok (.ifCond .lt 8, 3) := by decide +kernel
theorem dX10_back_4 : decode cX10_back 4 = .ok (.iload_n 1, 1) := by decide +kernel
theorem dX10_back_5 : decode cX10_back 5 = .ok (.iconst 3, 1) := by decide +kernel
theorem dX10_back_6 : decode cX10_back 6 = .ok (.if_icmp .lt 6, 3) := by decide +kernel
theorem dX10_back_9 : decode cX10_back 9 = .ok (.bipush (-2), 2) := by decide +kernel
theorem dX10_back_11 : decode cX10_back 11 = .ok (.ireturn, 1) := by decide +kernel
theorem dX10_back_12 : decode cX10_back 12 = .ok (.aload_n 0, 1) := by decide +kernel
theorem dX10_back_13 : decode cX10_back 13 = .ok (.getfield 75, 3) := by decide +kernel
theorem dX10_back_16 : decode cX10_back 16 = .ok (.iload_n 1, 1) := by decide +kernel
theorem dX10_back_17 : decode cX10_back 17 = .ok (.aaload, 1) := by decide +kernel
theorem dX10_back_18 : decode cX10_back 18 = .ok (.astore_n 2, 1) := by decide +kernel
theorem dX10_back_19 : decode cX10_back 19 = .ok (.aload_n 2, 1) := by decide +kernel
theorem dX10_back_20 : decode cX10_back 20 = .ok (.getfield 358, 3) := by decide +kernel
theorem dX10_back_23 : decode cX10_back 23 = .ok (.ifCond .ne 6, 3) := by decide +kernel
theorem dX10_back_26 : decode cX10_back 26 = .ok (.bipush (-6), 2) := by decide +kernel
theorem dX10_back_28 : decode cX10_back 28 = .ok (.ireturn, 1) := by decide +kernel
theorem dX10_back_29 : decode cX10_back 29 = .ok (.aload_n 0, 1) := by decide +kernel
theorem dX10_back_30 : decode cX10_back 30 = .ok (.getfield 19, 3) := by decide +kernel
theorem dX10_back_33 : decode cX10_back 33 = .ok (.aload_n 2, 1) := by decide +kernel
theorem dX10_back_34 : decode cX10_back 34 = .ok (.getfield 362, 3) := by decide +kernel
theorem dX10_back_37 : decode cX10_back 37 = .ok (.invokevirtual 103, 3) := by decide +kernel
theorem dX10_back_40 : decode cX10_back 40 = .ok (.aload_n 0, 1) := by decide +kernel
theorem dX10_back_41 : decode cX10_back 41 = .ok (.getfield 29, 3) := by decide +kernel
theorem dX10_back_44 : decode cX10_back 44 = .ok (.aload_n 2, 1) := by decide +kernel
theorem dX10_back_45 : decode cX10_back 45 = .ok (.getfield 363, 3) := by decide +kernel
theorem dX10_back_48 : decode cX10_back 48 = .ok (.invokevirtual 364, 3) := by decide +kernel
theorem dX10_back_51 : decode cX10_back 51 = .ok (.aload_n 0, 1) := by decide +kernel
theorem dX10_back_52 : decode cX10_back 52 = .ok (.getfield 29, 3) := by decide +kernel
theorem dX10_back_55 : decode cX10_back 55 = .ok (.aload_n 0, 1) := by decide +kernel
theorem dX10_back_56 : decode cX10_back 56 = .ok (.getfield 38, 3) := by decide +kernel
theorem dX10_back_59 : decode cX10_back 59 = .ok (.invokevirtual 206, 3) := by decide +kernel
theorem dX10_back_62 : decode cX10_back 62 = .ok (.iconst 0, 1) := by decide +kernel
theorem dX10_back_63 : decode cX10_back 63 = .ok (.ireturn, 1) := by decide +kernel
theorem dX10_brings_0 : decode cX10_brings 0 = .ok (.aload_n 0, 1) := by decide +kernel
theorem dX10_brings_1 : decode cX10_brings 1 = .ok (.iload_n 1, 1) := by decide +kernel
theorem dX10_brings_2 : decode cX10_brings 2 = .ok (.invokevirtual 158, 3) := by decide +kernel
theorem dX10_brings_5 : decode cX10_brings 5 = .ok (.ifCond .ne 6, 3) := by decide +kernel
theorem dX10_brings_8 : decode cX10_brings 8 = .ok (.bipush (-2), 2) := by decide +kernel
theorem dX10_brings_10 : decode cX10_brings 10 = .ok (.ireturn, 1) := by decide +kernel
theorem dX10_brings_11 : decode cX10_brings 11 = .ok (.aload_n 0, 1) := by decide +kernel
theorem dX10_brings_12 : decode cX10_brings 12 = .ok (.invokevirtual 186, 3) := by decide +kernel
theorem dX10_brings_15 : decode cX10_brings 15 = .ok (.ifCond .ne 25, 3) := by decide +kernel
theorem dX10_brings_18 : decode cX10_brings 18 = .ok (.aload_n 0, 1) := by decide +kernel
theorem dX10_brings_19 : decode cX10_brings 19 = .ok (.getfield 38, 3) := by decide +kernel
theorem dX10_brings_22 : decode cX10_brings 22 = .ok (.iload_n 1, 1) := by decide +kernel
theorem dX10_brings_23 : decode cX10_brings 23 = .ok (.invokevirtual 176, 3) := by decide +kernel
theorem dX10_brings_26 : decode cX10_brings 26 = .ok (.ifCond .eq 14, 3) := by decide +kernel
theorem dX10_brings_29 : decode cX10_brings 29 = .ok (.aload_n 0, 1) := by decide +kernel
theorem dX10_brings_30 : decode cX10_brings 30 = .ok (.getfield 38, 3) := by decide +kernel
theorem dX10_brings_33 : decode cX10_brings 33 = .ok (.iload_n 1, 1) := by decide +kernel
theorem dX10_brings_34 : decode cX10_brings 34 = .ok (.invokevirtual 200, 3) := by decide +kernel
theorem dX10_brings_37 : decode cX10_brings 37 = .ok (.ifCond .ne 6, 3) := by decide +kernel
theorem dX10_brings_40 : decode cX10_brings 40 = .ok (.bipush (-5), 2) := by decide +kernel
theorem dX10_brings_42 : decode cX10_brings 42 = .ok (.ireturn, 1) := by decide +kernel
theorem dX10_brings_43 : decode cX10_brings 43 = .ok (.aload_n 0, 1) := by decide +kernel
theorem dX10_brings_44 : decode cX10_brings 44 = .ok (.iconst 2, 1) := by decide +kernel
theorem dX10_brings_45 : decode cX10_brings 45 = .ok (.iload_n 1, 1) := by decide +kernel
theorem dX10_brings_46 : decode cX10_brings 46 = .ok (.iconst 0, 1) := by decide +kernel
theorem dX10_brings_47 : decode cX10_brings 47 = .ok (.iconst 0, 1) := by decide +kernel
theorem dX10_brings_48 : decode cX10_brings 48 = .ok (.invokevirtual 196, 3) := by decide +kernel
theorem dX10_brings_51 : decode cX10_brings 51 = .ok (.ireturn, 1) := by decide +kernel
theorem dX10_chain_0 : decode cX10_chain 0 = .ok (.aload_n 0, 1) := by decide +kernel
theorem dX10_chain_1 : decode cX10_chain 1 = .ok (.iload_n 1, 1) := by decide +kernel
theorem dX10_chain_2 : decode cX10_chain 2 = .ok (.invokevirtual 142, 3) := by decide +kernel
theorem dX10_chain_5 : decode cX10_chain 5 = .ok (.ifCond .ne 6, 3) := by decide +kernel
theorem dX10_chain_8 : decode cX10_chain 8 = .ok (.bipush (-2), 2) := by decide +kernel
theorem dX10_chain_10 : decode cX10_chain 10 = .ok (.ireturn, 1) := by decide +kernel
theorem dX10_chain_11 : decode cX10_chain 11 = .ok (.aload_n 0, 1) := by decide +kernel
theorem dX10_chain_12 : decode cX10_chain 12 = .ok (.getfield 48, 3) := by decide +kernel
theorem dX10_chain_15 : decode cX10_chain 15 = .ok (.aload_n 0, 1) := by decide +kernel
theorem dX10_chain_16 : decode cX10_chain 16 = .ok (.getfield 38, 3) := by decide +kernel
theorem dX10_chain_19 : decode cX10_chain 19 = .ok (.iload_n 1, 1) := by decide +kernel
theorem dX10_chain_20 : decode cX10_chain 20 = .ok (.invokevirtual 220, 3) := by decide +kernel
theorem dX10_chain_23 : decode cX10_chain 23 = .ok (.iload_n 2, 1) := by decide +kernel
theorem dX10_chain_24 : decode cX10_chain 24 = .ok (.ifCond .lt 26, 3) := by decide +kernel
theorem dX10_chain_27 : decode cX10_chain 27 = .ok (.iload_n 2, 1) := by decide +kernel
theorem dX10_chain_28 : decode cX10_chain 28 = .ok (.aload_n 0, 1) := by decide +kernel
theorem dX10_chain_29 : decode cX10_chain 29 = .ok (.getfield 48, 3) := by decide +kernel
theorem dX10_chain_32 : decode cX10_chain 32 = .ok (.getfield 227, 3) := by decide +kernel
theorem dX10_chain_35 : decode cX10_chain 35 = .ok (.if_icmp .ge 15, 3) := by decide +kernel
theorem dX10_chain_38 : decode cX10_chain 38 = .ok (.aload_n 0, 1) := by decide +kernel
theorem dX10_chain_39 : decode cX10_chain 39 = .ok (.getfield 48, 3) := by decide +kernel
theorem dX10_chain_42 : decode cX10_chain 42 = .ok (.getfield 228, 3) := by decide +kernel
theorem dX10_chain_45 : decode cX10_chain 45 = .ok (.iload_n 2, 1) := by decide +kernel
theorem dX10_chain_46 : decode cX10_chain 46 = .ok (.iaload, 1) := by decide +kernel
theorem dX10_chain_47 : decode cX10_chain 47 = .ok (.goto 4, 3) := by decide +kernel
theorem dX10_chain_50 : decode cX10_chain 50 = .ok (.iconst (-1), 1) := by decide +kernel
theorem dX10_chain_51 : decode cX10_chain 51 = .ok (.ireturn, 1) := by decide +kernel
theorem dX10_change_0 : decode cX10_change 0 = .ok (.aload_n 0, 1) := by decide +kernel
theorem dX10_change_1 : decode cX10_change 1 = .ok (.iload_n 1, 1) := by decide +kernel
theorem dX10_change_2 : decode cX10_change 2 = .ok (.invokevirtual 121, 3) := by decide +kernel
theorem dX10_change_5 : decode cX10_change 5 = .ok (.ifCond .eq 16, 3) := by decide +kernel
theorem dX10_change_8 : decode cX10_change 8 = .ok (.aload_n 0, 1) := by decide +kernel
theorem dX10_change_9 : decode cX10_change 9 = .ok (.iload_n 2, 1) := by decide +kernel
theorem dX10_change_10 : decode cX10_change 10 = .ok (.invokevirtual 121, 3) := by decide +kernel
theorem dX10_change_13 : decode cX10_change 13 = .ok (.ifCond .eq 8, 3) := by decide +kernel
theorem dX10_change_16 : decode cX10_change 16 = .ok (.iload_n 1, 1) := by decide +kernel
theorem dX10_change_17 : decode cX10_change 17 = .ok (.iload_n 2, 1) := by decide +kernel
theorem dX10_change_18 : decode cX10_change 18 = .ok (.if_icmp .ne 6, 3) := by decide +kernel
theorem dX10_change_21 : decode cX10_change 21 = .ok (.bipush (-2), 2) := by decide +kernel
theorem dX10_change_23 : decode cX10_change 23 = .ok (.ireturn, 1) := by decide +kernel
theorem dX10_change_24 : decode cX10_change 24 = .ok (.iconst 0, 1) := by decide +kernel
theorem dX10_change_25 : decode cX10_change 25 = .ok (.istore_n 3, 1) := by decide +kernel
theorem dX10_change_26 : decode cX10_change 26 = .ok (.iload_n 3, 1) := by decide +kernel
theorem dX10_change_27 : decode cX10_change 27 = .ok (.aload_n 0, 1) := by decide +kernel
theorem dX10_change_28 : decode cX10_change 28 = .ok (.getfield 19, 3) := by decide +kernel
theorem dX10_change_31 : decode cX10_change 31 = .ok (.getfield 296, 3) := by decide +kernel
theorem dX10_change_34 : decode cX10_change 34 = .ok (.if_icmp .ge 109, 3) := by decide +kernel
theorem dX10_change_37 : decode cX10_change 37 = .ok (.iconst 0, 1) := by decide +kernel
theorem dX10_change_38 : decode cX10_change 38 = .ok (.istore 4, 2) := by decide +kernel
theorem dX10_change_40 : decode cX10_change 40 = .ok (.iload 4, 2) := by decide +kernel
theorem dX10_change_42 : decode cX10_change 42 = .ok (.aload_n 0, 1) := by decide +kernel
theorem dX10_change_43 : decode cX10_change 43 = .ok (.getfield 19, 3) := by decide +kernel
theorem dX10_change_46 : decode cX10_change 46 = .ok (.getfield 296, 3) := by decide +kernel
theorem dX10_change_49 : decode cX10_change 49 = .ok (.if_icmp .ge 88, 3) := by decide +kernel
theorem dX10_change_52 : decode cX10_change 52 = .ok (.aload_n 0, 1) := by decide +kernel
theorem dX10_change_53 : decode cX10_change 53 = .ok (.getfield 38, 3) := by decide +kernel
theorem dX10_change_56 : decode cX10_change 56 = .ok (.getfield 148, 3) := by decide +kernel
theorem dX10_change_59 : decode cX10_change 59 = .ok (.iload_n 3, 1) := by decide +kernel
theorem dX10_change_60 : decode cX10_change 60 = .ok (.iaload, 1) := by decide +kernel
theorem dX10_change_61 : decode cX10_change 61 = .ok (.iload_n 1, 1) := by decide +kernel
theorem dX10_change_62 : decode cX10_change 62 = .ok (.if_icmp .ne 69, 3) := by decide +kernel
theorem dX10_change_65 : decode cX10_change 65 = .ok (.aload_n 0, 1) := by decide +kernel
theorem dX10_change_66 : decode cX10_change 66 = .ok (.getfield 38, 3) := by decide +kernel
theorem dX10_change_69 : decode cX10_change 69 = .ok (.getfield 148, 3) := by decide +kernel
theorem dX10_change_72 : decode cX10_change 72 = .ok (.iload 4, 2) := by decide +kernel
theorem dX10_change_74 : decode cX10_change 74 = .ok (.iaload, 1) := by decide +kernel
theorem dX10_change_75 : decode cX10_change 75 = .ok (.iload_n 2, 1) := by decide +kernel
theorem dX10_change_76 : decode cX10_change 76 = .ok (.if_icmp .ne 55, 3) := by decide +kernel
theorem dX10_change_79 : decode cX10_change 79 = .ok (.aload_n 0, 1) := by decide +kernel
theorem dX10_change_80 : decode cX10_change 80 = .ok (.getfield 19, 3) := by decide +kernel
theorem dX10_change_83 : decode cX10_change 83 = .ok (.iload_n 1, 1) := by decide +kernel
theorem dX10_change_84 : decode cX10_change 84 = .ok (.iload 4, 2) := by decide +kernel
theorem dX10_change_86 : decode cX10_change 86 = .ok (.invokevirtual 154, 3) := by decide +kernel
theorem dX10_change_89 : decode cX10_change 89 = .ok (.aload_n 0, 1) := by decide +kernel
theorem dX10_change_90 : decode cX10_change 90 = .ok (.getfield 19, 3) := by decide +kernel
theorem dX10_change_93 : decode cX10_change 93 = .ok (.iload_n 1, 1) := by decide +kernel
theorem dX10_change_94 : decode cX10_change 94 = .ok (.iload_n 3, 1) := by decide +kernel
theorem dX10_change_95 : decode cX10_change 95 = .ok (.invokevirtual 154, 3) := by decide +kernel
theorem dX10_change_98 : decode cX10_change 98 = .ok (.if_icmp .le 33, 3) := by decide +kernel
theorem dX10_change_101 : decode cX10_change 101 = .ok (.aload_n 0, 1) := by decide +kernel
theorem dX10_change_102 : decode cX10_change 102 = .ok (.getfield 19, 3) := by decide +kernel
theorem dX10_change_105 : decode cX10_change 105 = .ok (.iload_n 2, 1) := by decide +kernel
theorem dX10_change_106 : decode cX10_change 106 = .ok (.iload_n 3, 1) := by decide +kernel
theorem dX10_change_107 : decode cX10_change 107 = .ok (.invokevirtual 154, 3) := by decide +kernel
theorem dX10_change_110 : decode cX10_change 110 = .ok (.aload_n 0, 1) := by decide +kernel
theorem dX10_change_111 : decode cX10_change 111 = .ok (.getfield 19, 3) := by decide +kernel
theorem dX10_change_114 : decode cX10_change 114 = .ok (.iload_n 2, 1) := by decide +kernel
theorem dX10_change_115 : decode cX10_change 115 = .ok (.iload 4, 2) := by decide +kernel
theorem dX10_change_117 : decode cX10_change 117 = .ok (.invokevirtual 154, 3) := by decide +kernel
theorem dX10_change_120 : decode cX10_change 120 = .ok (.if_icmp .le 11, 3) := by decide +kernel
theorem dX10_change_123 : decode cX10_change 123 = .ok (.bipush 10, 2) := by decide +kernel
theorem dX10_change_125 : decode cX10_change 125 = .ok (.iload_n 3, 1) := by decide +kernel
theorem dX10_change_126 : decode cX10_change 126 = .ok (.imul, 1) := by decide +kernel
theorem dX10_change_127 : decode cX10_change 127 = .ok (.iload 4, 2) := by decide +kernel
theorem dX10_change_129 : decode cX10_change 129 = .ok (.iadd, 1) := by decide +kernel
theorem dX10_change_130 : decode cX10_change 130 = .ok (.ireturn, 1) := by decide +kernel
theorem dX10_change_131 : decode cX10_change 131 = .ok (.iinc 4 1, 3) := by decide +kernel
theorem dX10_change_134 : decode cX10_change 134 = .ok (.goto (-94), 3) := by decide +kernel
theorem dX10_change_137 : decode cX10_change 137 = .ok (.iinc 3 1, 3) := by decide +kernel
theorem dX10_change_140 : decode cX10_change 140 = .ok (.goto (-114), 3) := by decide +kernel
theorem dX10_change_143 : decode cX10_change 143 = .ok (.iconst (-1), 1) := by decide +kernel
theorem dX10_change_144 : decode cX10_change 144 = .ok (.ireturn, 1) := by decide +kernel
theorem dX10_city_0 : decode cX10_city 0 = .ok (.aload_n 0, 1) := by decide +kernel
theorem dX10_city_1 : decode cX10_city 1 = .ok (.getfield 10, 3) := by decide +kernel
theorem dX10_city_4 : decode cX10_city 4 = .ok (.aload_n 0, 1) := by decide +kernel
theorem dX10_city_5 : decode cX10_city 5 = .ok (.getfield 23, 3) := by decide +kernel
theorem dX10_city_8 : decode cX10_city 8 = .ok (.invokevirtual 99, 3) := by decide +kernel
theorem dX10_city_11 : decode cX10_city 11 = .ok (.ifCond .ne 6, 3) := by decide +kernel
theorem dX10_city_14 : decode cX10_city 14 = .ok (.bipush (-4), 2) := by decide +kernel
theorem dX10_city_16 : decode cX10_city 16 = .ok (.ireturn, 1) := by decide +kernel
theorem dX10_city_17 : decode cX10_city 17 = .ok (.aload_n 0, 1) := by decide +kernel
theorem dX10_city_18 : decode cX10_city 18 = .ok (.getfield 10, 3) := by decide +kernel
theorem dX10_city_21 : decode cX10_city 21 = .ok (.iconst 0, 1) := by decide +kernel
theorem dX10_city_22 : decode cX10_city 22 = .ok (.putfield 95, 3) := by decide +kernel
theorem dX10_city_25 : decode cX10_city 25 = .ok (.aload_n 0, 1) := by decide +kernel
theorem dX10_city_26 : decode cX10_city 26 = .ok (.getfield 19, 3) := by decide +kernel
theorem dX10_city_29 : decode cX10_city 29 = .ok (.aload_n 0, 1) := by decide +kernel
theorem dX10_city_30 : decode cX10_city 30 = .ok (.getfield 23, 3) := by decide +kernel
theorem dX10_city_33 : decode cX10_city 33 = .ok (.invokevirtual 103, 3) := by decide +kernel
theorem dX10_city_36 : decode cX10_city 36 = .ok (.aload_n 0, 1) := by decide +kernel
theorem dX10_city_37 : decode cX10_city 37 = .ok (.getfield 29, 3) := by decide +kernel
theorem dX10_city_40 : decode cX10_city 40 = .ok (.iconst 0, 1) := by decide +kernel
theorem dX10_city_41 : decode cX10_city 41 = .ok (.putfield 106, 3) := by decide +kernel
theorem dX10_city_44 : decode cX10_city 44 = .ok (.aload_n 0, 1) := by decide +kernel
theorem dX10_city_45 : decode cX10_city 45 = .ok (.getfield 38, 3) := by decide +kernel
theorem dX10_city_48 : decode cX10_city 48 = .ok (.invokevirtual 109, 3) := by decide +kernel
theorem dX10_city_51 : decode cX10_city 51 = .ok (.aload_n 0, 1) := by decide +kernel
theorem dX10_city_52 : decode cX10_city 52 = .ok (.getfield 19, 3) := by decide +kernel
theorem dX10_city_55 : decode cX10_city 55 = .ok (.getfield 112, 3) := by decide +kernel
theorem dX10_city_58 : decode cX10_city 58 = .ok (.ireturn, 1) := by decide +kernel
theorem dX10_count_0 : decode cX10_count 0 = .ok (.iload_n 1, 1) := by decide +kernel
theorem dX10_count_1 : decode cX10_count 1 = .ok (.tableswitch 132 0 9 #[55, 63, 71, 79, 87, 95, 103, 111, 119, 127], 55) := by decide +kernel
theorem dX10_count_56 : decode cX10_count 56 = .ok (.aload_n 0, 1) := by decide +kernel
theorem dX10_count_57 : decode cX10_count 57 = .ok (.getfield 19, 3) := by decide +kernel
theorem dX10_count_60 : decode cX10_count 60 = .ok (.getfield 346, 3) := by decide +kernel
theorem dX10_count_63 : decode cX10_count 63 = .ok (.ireturn, 1) := by decide +kernel
theorem dX10_count_64 : decode cX10_count 64 = .ok (.aload_n 0, 1) := by decide +kernel
theorem dX10_count_65 : decode cX10_count 65 = .ok (.getfield 19, 3) := by decide +kernel
theorem dX10_count_68 : decode cX10_count 68 = .ok (.getfield 349, 3) := by decide +kernel
theorem dX10_count_71 : decode cX10_count 71 = .ok (.ireturn, 1) := by decide +kernel
theorem dX10_count_72 : decode cX10_count 72 = .ok (.aload_n 0, 1) := by decide +kernel
theorem dX10_count_73 : decode cX10_count 73 = .ok (.getfield 19, 3) := by decide +kernel
theorem dX10_count_76 : decode cX10_count 76 = .ok (.getfield 352, 3) := by decide +kernel
theorem dX10_count_79 : decode cX10_count 79 = .ok (.ireturn, 1) := by decide +kernel
theorem dX10_count_80 : decode cX10_count 80 = .ok (.aload_n 0, 1) := by decide +kernel
theorem dX10_count_81 : decode cX10_count 81 = .ok (.getfield 19, 3) := by decide +kernel
theorem dX10_count_84 : decode cX10_count 84 = .ok (.getfield 255, 3) := by decide +kernel
theorem dX10_count_87 : decode cX10_count 87 = .ok (.ireturn, 1) := by decide +kernel
theorem dX10_count_88 : decode cX10_count 88 = .ok (.aload_n 0, 1) := by decide +kernel
theorem dX10_count_89 : decode cX10_count 89 = .ok (.getfield 19, 3) := by decide +kernel
theorem dX10_count_92 : decode cX10_count 92 = .ok (.getfield 296, 3) := by decide +kernel
theorem dX10_count_95 : decode cX10_count 95 = .ok (.ireturn, 1) := by decide +kernel
theorem dX10_count_96 : decode cX10_count 96 = .ok (.aload_n 0, 1) := by decide +kernel
theorem dX10_count_97 : decode cX10_count 97 = .ok (.getfield 38, 3) := by decide +kernel
theorem dX10_count_100 : decode cX10_count 100 = .ok (.getfield 339, 3) := by decide +kernel
theorem dX10_count_103 : decode cX10_count 103 = .ok (.ireturn, 1) := by decide +kernel
theorem dX10_count_104 : decode cX10_count 104 = .ok (.aload_n 0, 1) := by decide +kernel
theorem dX10_count_105 : decode cX10_count 105 = .ok (.getfield 29, 3) := by decide +kernel
theorem dX10_count_108 : decode cX10_count 108 = .ok (.getfield 106, 3) := by decide +kernel
theorem dX10_count_111 : decode cX10_count 111 = .ok (.ireturn, 1) := by decide +kernel
theorem dX10_count_112 : decode cX10_count 112 = .ok (.aload_n 0, 1) := by decide +kernel
theorem dX10_count_113 : decode cX10_count 113 = .ok (.getfield 19, 3) := by decide +kernel
theorem dX10_count_116 : decode cX10_count 116 = .ok (.getfield 112, 3) := by decide +kernel
theorem dX10_count_119 : decode cX10_count 119 = .ok (.ireturn, 1) := by decide +kernel
theorem dX10_count_120 : decode cX10_count 120 = .ok (.aload_n 0, 1) := by decide +kernel
theorem dX10_count_121 : decode cX10_count 121 = .ok (.getfield 10, 3) := by decide +kernel
theorem dX10_count_124 : decode cX10_count 124 = .ok (.getfield 95, 3) := by decide +kernel
theorem dX10_count_127 : decode cX10_count 127 = .ok (.ireturn, 1) := by decide +kernel
theorem dX10_count_128 : decode cX10_count 128 = .ok (.aload_n 0, 1) := by decide +kernel
theorem dX10_count_129 : decode cX10_count 129 = .ok (.invokevirtual 355, 3) := by decide +kernel
theorem dX10_count_132 : decode cX10_count 132 = .ok (.ireturn, 1) := by decide +kernel
theorem dX10_count_133 : decode cX10_count 133 = .ok (.iconst (-1), 1) := by decide +kernel
theorem dX10_count_134 : decode cX10_count 134 = .ok (.ireturn, 1) := by decide +kernel
theorem dX10_deal_0 : decode cX10_deal 0 = .ok (.aload_n 0, 1) := by decide +kernel
theorem dX10_deal_1 : decode cX10_deal 1 = .ok (.invokevirtual 203, 3) := by decide +kernel
theorem dX10_deal_4 : decode cX10_deal 4 = .ok (.ifCond .eq 17, 3) := by decide +kernel
theorem dX10_deal_7 : decode cX10_deal 7 = .ok (.aload_n 0, 1) := by decide +kernel
theorem dX10_deal_8 : decode cX10_deal 8 = .ok (.getfield 55, 3) := by decide +kernel
theorem dX10_deal_11 : decode cX10_deal 11 = .ok (.aload_n 0, 1) := by decide +kernel
theorem dX10_deal_12 : decode cX10_deal 12 = .ok (.getfield 19, 3) := by decide +kernel
theorem dX10_deal_15 : decode cX10_deal 15 = .ok (.invokevirtual 299, 3) := by decide +kernel
theorem dX10_deal_18 : decode cX10_deal 18 = .ok (.goto 5, 3) := by decide +kernel
theorem dX10_deal_21 : decode cX10_deal 21 = .ok (.bipush (-2), 2) := by decide +kernel
theorem dX10_deal_23 : decode cX10_deal 23 = .ok (.ireturn, 1) := by decide +kernel
theorem dX10_deals_0 : decode cX10_deals 0 = .ok (.aload_n 0, 1) := by decide +kernel
theorem dX10_deals_1 : decode cX10_deals 1 = .ok (.iload_n 1, 1) := by decide +kernel
theorem dX10_deals_2 : decode cX10_deals 2 = .ok (.invokevirtual 142, 3) := by decide +kernel
theorem dX10_deals_5 : decode cX10_deals 5 = .ok (.ifCond .eq 18, 3) := by decide +kernel
theorem dX10_deals_8 : decode cX10_deals 8 = .ok (.aload_n 0, 1) := by decide +kernel
theorem dX10_deals_9 : decode cX10_deals 9 = .ok (.getfield 55, 3) := by decide +kernel
theorem dX10_deals_12 : decode cX10_deals 12 = .ok (.aload_n 0, 1) := by decide +kernel
theorem dX10_deals_13 : decode cX10_deals 13 = .ok (.getfield 19, 3) := by decide +kernel
theorem dX10_deals_16 : decode cX10_deals 16 = .ok (.iload_n 1, 1) := by decide +kernel
theorem dX10_deals_17 : decode cX10_deals 17 = .ok (.invokevirtual 303, 3) := by decide +kernel
theorem dX10_deals_20 : decode cX10_deals 20 = .ok (.goto 5, 3) := by decide +kernel
theorem dX10_deals_23 : decode cX10_deals 23 = .ok (.bipush (-2), 2) := by decide +kernel
theorem dX10_deals_25 : decode cX10_deals 25 = .ok (.ireturn, 1) := by decide +kernel
theorem dX10_dear_0 : decode cX10_dear 0 = .ok (.aload_n 0, 1) := by decide +kernel
theorem dX10_dear_1 : decode cX10_dear 1 = .ok (.invokevirtual 203, 3) := by decide +kernel
theorem dX10_dear_4 : decode cX10_dear 4 = .ok (.ifCond .ne 6, 3) := by decide +kernel
theorem dX10_dear_7 : decode cX10_dear 7 = .ok (.bipush (-2), 2) := by decide +kernel
theorem dX10_dear_9 : decode cX10_dear 9 = .ok (.ireturn, 1) := by decide +kernel
theorem dX10_dear_10 : decode cX10_dear 10 = .ok (.sipush 999, 3) := by decide +kernel
theorem dX10_dear_13 : decode cX10_dear 13 = .ok (.istore_n 1, 1) := by decide +kernel
theorem dX10_dear_14 : decode cX10_dear 14 = .ok (.iconst 0, 1) := by decide +kernel
theorem dX10_dear_15 : decode cX10_dear 15 = .ok (.istore_n 2, 1) := by decide +kernel
theorem dX10_dear_16 : decode cX10_dear 16 = .ok (.iload_n 2, 1) := by decide +kernel
theorem dX10_dear_17 : decode cX10_dear 17 = .ok (.aload_n 0, 1) := by decide +kernel
theorem dX10_dear_18 : decode cX10_dear 18 = .ok (.getfield 19, 3) := by decide +kernel
theorem dX10_dear_21 : decode cX10_dear 21 = .ok (.getfield 255, 3) := by decide +kernel
theorem dX10_dear_24 : decode cX10_dear 24 = .ok (.if_icmp .ge 22, 3) := by decide +kernel
theorem dX10_dear_27 : decode cX10_dear 27 = .ok (.iload_n 1, 1) := by decide +kernel
theorem dX10_dear_28 : decode cX10_dear 28 = .ok (.aload_n 0, 1) := by decide +kernel
theorem dX10_dear_29 : decode cX10_dear 29 = .ok (.getfield 38, 3) := by decide +kernel
theorem dX10_dear_32 : decode cX10_dear 32 = .ok (.iload_n 2, 1) := by decide +kernel
theorem dX10_dear_33 : decode cX10_dear 33 = .ok (.invokevirtual 313, 3) := by decide +kernel
theorem dX10_dear_36 : decode cX10_dear 36 = .ok (.invokestatic 316, 3) := by decide +kernel
theorem dX10_dear_39 : decode cX10_dear 39 = .ok (.istore_n 1, 1) := by decide +kernel
theorem dX10_dear_40 : decode cX10_dear 40 = .ok (.iinc 2 1, 3) := by decide +kernel
theorem dX10_dear_43 : decode cX10_dear 43 = .ok (.goto (-27), 3) := by decide +kernel
theorem dX10_dear_46 : decode cX10_dear 46 = .ok (.iload_n 1, 1) := by decide +kernel
theorem dX10_dear_47 : decode cX10_dear 47 = .ok (.ireturn, 1) := by decide +kernel
theorem dX10_drawNights_0 : decode cX10_drawNights 0 = .ok (.aload_n 0, 1) := by decide +kernel
theorem dX10_drawNights_1 : decode cX10_drawNights 1 = .ok (.getfield 42, 3) := by decide +kernel
theorem dX10_drawNights_4 : decode cX10_drawNights 4 = .ok (.aload_n 0, 1) := by decide +kernel
theorem dX10_drawNights_5 : decode cX10_drawNights 5 = .ok (.getfield 38, 3) := by decide +kernel
theorem dX10_drawNights_8 : decode cX10_drawNights 8 = .ok (.invokevirtual 264, 3) := by decide +kernel
theorem dX10_drawNights_11 : decode cX10_drawNights 11 = .ok (.aload_n 0, 1) := by decide +kernel
theorem dX10_drawNights_12 : decode cX10_drawNights 12 = .ok (.getfield 62, 3) := by decide +kernel
theorem dX10_drawNights_15 : decode cX10_drawNights 15 = .ok (.iload_n 1, 1) := by decide +kernel
theorem dX10_drawNights_16 : decode cX10_drawNights 16 = .ok (.invokevirtual 415, 3) := by decide +kernel
theorem dX10_drawNights_19 : decode cX10_drawNights 19 = .ok (.iconst 0, 1) := by decide +kernel
theorem dX10_drawNights_20 : decode cX10_drawNights 20 = .ok (.istore_n 3, 1) := by decide +kernel
theorem dX10_drawNights_21 : decode cX10_drawNights 21 = .ok (.iconst 0, 1) := by decide +kernel
theorem dX10_drawNights_22 : decode cX10_drawNights 22 = .ok (.istore 4, 2) := by decide +kernel
theorem dX10_drawNights_24 : decode cX10_drawNights 24 = .ok (.iload 4, 2) := by decide +kernel
theorem dX10_drawNights_26 : decode cX10_drawNights 26 = .ok (.iload_n 2, 1) := by decide +kernel
theorem dX10_drawNights_27 : decode cX10_drawNights 27 = .ok (.if_icmp .ge 49, 3) := by decide +kernel
theorem dX10_drawNights_30 : decode cX10_drawNights 30 = .ok (.iconst 0, 1) := by decide +kernel
theorem dX10_drawNights_31 : decode cX10_drawNights 31 = .ok (.istore 5, 2) := by decide +kernel
theorem dX10_drawNights_33 : decode cX10_drawNights 33 = .ok (.iload 5, 2) := by decide +kernel
theorem dX10_drawNights_35 : decode cX10_drawNights 35 = .ok (.aload_n 0, 1) := by decide +kernel
theorem dX10_drawNights_36 : decode cX10_drawNights 36 = .ok (.getfield 19, 3) := by decide +kernel
theorem dX10_drawNights_39 : decode cX10_drawNights 39 = .ok (.getfield 255, 3) := by decide +kernel
theorem dX10_drawNights_42 : decode cX10_drawNights 42 = .ok (.if_icmp .ge 15, 3) := by decide +kernel
theorem dX10_drawNights_45 : decode cX10_drawNights 45 = .ok (.aload_n 0, 1) := by decide +kernel
theorem dX10_drawNights_46 : decode cX10_drawNights 46 = .ok (.iload 5, 2) := by decide +kernel
theorem dX10_drawNights_48 : decode cX10_drawNights 48 = .ok (.invokevirtual 417, 3) := by decide +kernel
theorem dX10_drawNights_51 : decode cX10_drawNights 51 = .ok (.iinc 5 1, 3) := by decide +kernel
theorem dX10_drawNights_54 : decode cX10_drawNights 54 = .ok (.goto (-21), 3) := by decide +kernel
theorem dX10_drawNights_57 : decode cX10_drawNights 57 = .ok (.iload_n 3, 1) := by decide +kernel
theorem dX10_drawNights_58 : decode cX10_drawNights 58 = .ok (.aload_n 0, 1) := by decide +kernel
theorem dX10_drawNights_59 : decode cX10_drawNights 59 = .ok (.getfield 42, 3) := by decide +kernel
theorem dX10_drawNights_62 : decode cX10_drawNights 62 = .ok (.invokevirtual 278, 3) := by decide +kernel
theorem dX10_drawNights_65 : decode cX10_drawNights 65 = .ok (.invokestatic 241, 3) := by decide +kernel
theorem dX10_drawNights_68 : decode cX10_drawNights 68 = .ok (.iadd, 1) := by decide +kernel
theorem dX10_drawNights_69 : decode cX10_drawNights 69 = .ok (.istore_n 3, 1) := by decide +kernel
theorem dX10_drawNights_70 : decode cX10_drawNights 70 = .ok (.iinc 4 1, 3) := by decide +kernel
theorem dX10_drawNights_73 : decode cX10_drawNights 73 = .ok (.goto (-49), 3) := by decide +kernel
theorem dX10_drawNights_76 : decode cX10_drawNights 76 = .ok (.iload_n 3, 1) := by decide +kernel
theorem dX10_drawNights_77 : decode cX10_drawNights 77 = .ok (.ireturn, 1) := by decide +kernel
theorem dX10_drawTheft_0 : decode cX10_drawTheft 0 = .ok (.aload_n 0, 1) := by decide +kernel
theorem dX10_drawTheft_1 : decode cX10_drawTheft 1 = .ok (.getfield 62, 3) := by decide +kernel
theorem dX10_drawTheft_4 : decode cX10_drawTheft 4 = .ok (.bipush 100, 2) := by decide +kernel
theorem dX10_drawTheft_6 : decode cX10_drawTheft 6 = .ok (.invokevirtual 420, 3) := by decide +kernel
theorem dX10_drawTheft_9 : decode cX10_drawTheft 9 = .ok (.aload_n 0, 1) := by decide +kernel
theorem dX10_drawTheft_10 : decode cX10_drawTheft 10 = .ok (.getfield 19, 3) := by decide +kernel
theorem dX10_drawTheft_13 : decode cX10_drawTheft 13 = .ok (.getfield 352, 3) := by decide +kernel
theorem dX10_drawTheft_16 : decode cX10_drawTheft 16 = .ok (.if_icmp .ge 7, 3) := by decide +kernel
theorem dX10_drawTheft_19 : decode cX10_drawTheft 19 = .ok (.iconst 1, 1) := by decide +kernel
theorem dX10_drawTheft_20 : decode cX10_drawTheft 20 = .ok (.goto 4, 3) := by decide +kernel
theorem dX10_drawTheft_23 : decode cX10_drawTheft 23 = .ok (.iconst 0, 1) := by decide +kernel
theorem dX10_drawTheft_24 : decode cX10_drawTheft 24 = .ok (.istore_n 2, 1) := by decide +kernel
theorem dX10_drawTheft_25 : decode cX10_drawTheft 25 = .ok (.iload_n 2, 1) := by decide +kernel
theorem dX10_drawTheft_26 : decode cX10_drawTheft 26 = .ok (.ifCond .eq 13, 3) := by decide +kernel
theorem dX10_drawTheft_29 : decode cX10_drawTheft 29 = .ok (.aload_n 0, 1) := by decide +kernel
theorem dX10_drawTheft_30 : decode cX10_drawTheft 30 = .ok (.getfield 19, 3) := by decide +kernel
theorem dX10_drawTheft_33 : decode cX10_drawTheft 33 = .ok (.getfield 296, 3) := by decide +kernel
theorem dX10_drawTheft_36 : decode cX10_drawTheft 36 = .ok (.ifCond .ne 4, 3) := by decide +kernel
theorem dX10_drawTheft_39 : decode cX10_drawTheft 39 = .ok (.return_, 1) := by decide +kernel
theorem dX10_drawTheft_40 : decode cX10_drawTheft 40 = .ok (.aload_n 0, 1) := by decide +kernel
theorem dX10_drawTheft_41 : decode cX10_drawTheft 41 = .ok (.getfield 62, 3) := by decide +kernel
theorem dX10_drawTheft_44 : decode cX10_drawTheft 44 = .ok (.aload_n 0, 1) := by decide +kernel
theorem dX10_drawTheft_45 : decode cX10_drawTheft 45 = .ok (.getfield 19, 3) := by decide +kernel
theorem dX10_drawTheft_48 : decode cX10_drawTheft 48 = .ok (.getfield 296, 3) := by decide +kernel
theorem dX10_drawTheft_51 : decode cX10_drawTheft 51 = .ok (.invokevirtual 420, 3) := by decide +kernel
theorem dX10_drawTheft_54 : decode cX10_drawTheft 54 = .ok (.istore_n 3, 1) := by decide +kernel
theorem dX10_drawTheft_55 : decode cX10_drawTheft 55 = .ok (.aload_n 0, 1) := by decide +kernel
theorem dX10_drawTheft_56 : decode cX10_drawTheft 56 = .ok (.getfield 42, 3) := by decide +kernel
theorem dX10_drawTheft_59 : decode cX10_drawTheft 59 = .ok (.iload_n 1, 1) := by decide +kernel
theorem dX10_drawTheft_60 : decode cX10_drawTheft 60 = .ok (.iload_n 3, 1) := by decide +kernel
theorem dX10_drawTheft_61 : decode cX10_drawTheft 61 = .ok (.invokevirtual 192, 3) := by decide +kernel
theorem dX10_drawTheft_64 : decode cX10_drawTheft 64 = .ok (.ifCond .eq 23, 3) := by decide +kernel
theorem dX10_drawTheft_67 : decode cX10_drawTheft 67 = .ok (.aload_n 0, 1) := by decide +kernel
theorem dX10_drawTheft_68 : decode cX10_drawTheft 68 = .ok (.getfield 42, 3) := by decide +kernel
theorem dX10_drawTheft_71 : decode cX10_drawTheft 71 = .ok (.iload_n 1, 1) := by decide +kernel
theorem dX10_drawTheft_72 : decode cX10_drawTheft 72 = .ok (.iload_n 3, 1) := by decide +kernel
theorem dX10_drawTheft_73 : decode cX10_drawTheft 73 = .ok (.aload_n 0, 1) := by decide +kernel
theorem dX10_drawTheft_74 : decode cX10_drawTheft 74 = .ok (.getfield 42, 3) := by decide +kernel
theorem dX10_drawTheft_77 : decode cX10_drawTheft 77 = .ok (.getfield 189, 3) := by decide +kernel
theorem dX10_drawTheft_80 : decode cX10_drawTheft 80 = .ok (.bipush 7, 2) := by decide +kernel
theorem dX10_drawTheft_82 : decode cX10_drawTheft 82 = .ok (.iadd, 1) := by decide +kernel
theorem dX10_drawTheft_83 : decode cX10_drawTheft 83 = .ok (.invokevirtual 423, 3) := by decide +kernel
theorem dX10_drawTheft_86 : decode cX10_drawTheft 86 = .ok (.pop, 1) := by decide +kernel
theorem dX10_drawTheft_87 : decode cX10_drawTheft 87 = .ok (.return_, 1) := by decide +kernel
theorem dX10_drawn_0 : decode cX10_drawn 0 = .ok (.aload_n 0, 1) := by decide +kernel
theorem dX10_drawn_1 : decode cX10_drawn 1 = .ok (.invokevirtual 203, 3) := by decide +kernel
theorem dX10_drawn_4 : decode cX10_drawn 4 = .ok (.ifCond .eq 20, 3) := by decide +kernel
theorem dX10_drawn_7 : decode cX10_drawn 7 = .ok (.iload_n 1, 1) := by decide +kernel
theorem dX10_drawn_8 : decode cX10_drawn 8 = .ok (.iload_n 2, 1) := by decide +kernel
theorem dX10_drawn_9 : decode cX10_drawn 9 = .ok (.invokestatic 333, 3) := by decide +kernel
theorem dX10_drawn_12 : decode cX10_drawn 12 = .ok (.ifCond .eq 12, 3) := by decide +kernel
theorem dX10_drawn_15 : decode cX10_drawn 15 = .ok (.iload_n 3, 1) := by decide +kernel
theorem dX10_drawn_16 : decode cX10_drawn 16 = .ok (.ifCond .lt 8, 3) := by decide +kernel
theorem dX10_drawn_19 : decode cX10_drawn 19 = .ok (.iload_n 3, 1) := by decide +kernel
theorem dX10_drawn_20 : decode cX10_drawn 20 = .ok (.iconst 2, 1) := by decide +kernel
theorem dX10_drawn_21 : decode cX10_drawn 21 = .ok (.if_icmp .le 6, 3) := by decide +kernel
theorem dX10_drawn_24 : decode cX10_drawn 24 = .ok (.bipush (-2), 2) := by decide +kernel
theorem dX10_drawn_26 : decode cX10_drawn 26 = .ok (.ireturn, 1) := by decide +kernel
theorem dX10_drawn_27 : decode cX10_drawn 27 = .ok (.aload_n 0, 1) := by decide +kernel
theorem dX10_drawn_28 : decode cX10_drawn 28 = .ok (.iload_n 1, 1) := by decide +kernel
theorem dX10_drawn_29 : decode cX10_drawn 29 = .ok (.iload_n 2, 1) := by decide +kernel
theorem dX10_drawn_30 : decode cX10_drawn 30 = .ok (.invokevirtual 336, 3) := by decide +kernel
theorem dX10_drawn_33 : decode cX10_drawn 33 = .ok (.istore 4, 2) := by decide +kernel
theorem dX10_drawn_35 : decode cX10_drawn 35 = .ok (.iload_n 3, 1) := by decide +kernel
theorem dX10_drawn_36 : decode cX10_drawn 36 = .ok (.ifCond .ne 6, 3) := by decide +kernel
theorem dX10_drawn_39 : decode cX10_drawn 39 = .ok (.iload 4, 2) := by decide +kernel
theorem dX10_drawn_41 : decode cX10_drawn 41 = .ok (.ireturn, 1) := by decide +kernel
theorem dX10_drawn_42 : decode cX10_drawn 42 = .ok (.iload_n 3, 1) := by decide +kernel
theorem dX10_drawn_43 : decode cX10_drawn 43 = .ok (.iconst 1, 1) := by decide +kernel
theorem dX10_drawn_44 : decode cX10_drawn 44 = .ok (.if_icmp .ne 11, 3) := by decide +kernel
theorem dX10_drawn_47 : decode cX10_drawn 47 = .ok (.aload_n 0, 1) := by decide +kernel
theorem dX10_drawn_48 : decode cX10_drawn 48 = .ok (.getfield 42, 3) := by decide +kernel
theorem dX10_drawn_51 : decode cX10_drawn 51 = .ok (.getfield 339, 3) := by decide +kernel
theorem dX10_drawn_54 : decode cX10_drawn 54 = .ok (.ireturn, 1) := by decide +kernel
theorem dX10_drawn_55 : decode cX10_drawn 55 = .ok (.aload_n 0, 1) := by decide +kernel
theorem dX10_drawn_56 : decode cX10_drawn 56 = .ok (.getfield 19, 3) := by decide +kernel
theorem dX10_drawn_59 : decode cX10_drawn 59 = .ok (.getfield 255, 3) := by decide +kernel
theorem dX10_drawn_62 : decode cX10_drawn 62 = .ok (.ifCond .le 15, 3) := by decide +kernel
theorem dX10_drawn_65 : decode cX10_drawn 65 = .ok (.aload_n 0, 1) := by decide +kernel
theorem dX10_drawn_66 : decode cX10_drawn 66 = .ok (.getfield 42, 3) := by decide +kernel
theorem dX10_drawn_69 : decode cX10_drawn 69 = .ok (.getfield 125, 3) := by decide +kernel
theorem dX10_drawn_72 : decode cX10_drawn 72 = .ok (.iconst 0, 1) := by decide +kernel
theorem dX10_drawn_73 : decode cX10_drawn 73 = .ok (.iaload, 1) := by decide +kernel
theorem dX10_drawn_74 : decode cX10_drawn 74 = .ok (.goto 4, 3) := by decide +kernel
theorem dX10_drawn_77 : decode cX10_drawn 77 = .ok (.iconst (-1), 1) := by decide +kernel
theorem dX10_drawn_78 : decode cX10_drawn 78 = .ok (.ireturn, 1) := by decide +kernel
theorem dX10_due_0 : decode cX10_due 0 = .ok (.aload_n 0, 1) := by decide +kernel
theorem dX10_due_1 : decode cX10_due 1 = .ok (.invokevirtual 203, 3) := by decide +kernel
theorem dX10_due_4 : decode cX10_due 4 = .ok (.ifCond .eq 13, 3) := by decide +kernel
theorem dX10_due_7 : decode cX10_due 7 = .ok (.iload_n 1, 1) := by decide +kernel
theorem dX10_due_8 : decode cX10_due 8 = .ok (.ifCond .lt 9, 3) := by decide +kernel
theorem dX10_due_11 : decode cX10_due 11 = .ok (.iload_n 1, 1) := by decide +kernel
theorem dX10_due_12 : decode cX10_due 12 = .ok (.bipush 60, 2) := by decide +kernel
theorem dX10_due_14 : decode cX10_due 14 = .ok (.if_icmp .le 6, 3) := by decide +kernel
theorem dX10_due_17 : decode cX10_due 17 = .ok (.bipush (-2), 2) := by decide +kernel
theorem dX10_due_19 : decode cX10_due 19 = .ok (.ireturn, 1) := by decide +kernel
theorem dX10_due_20 : decode cX10_due 20 = .ok (.aload_n 0, 1) := by decide +kernel
theorem dX10_due_21 : decode cX10_due 21 = .ok (.getfield 38, 3) := by decide +kernel
theorem dX10_due_24 : decode cX10_due 24 = .ok (.iload_n 1, 1) := by decide +kernel
theorem dX10_due_25 : decode cX10_due 25 = .ok (.invokevirtual 258, 3) := by decide +kernel
theorem dX10_due_28 : decode cX10_due 28 = .ok (.ireturn, 1) := by decide +kernel
theorem dX10_end_0 : decode cX10_end 0 = .ok (.iload_n 1, 1) := by decide +kernel
theorem dX10_end_1 : decode cX10_end 1 = .ok (.ifCond .lt 14, 3) := by decide +kernel
theorem dX10_end_4 : decode cX10_end 4 = .ok (.iload_n 1, 1) := by decide +kernel
theorem dX10_end_5 : decode cX10_end 5 = .ok (.aload_n 0, 1) := by decide +kernel
theorem dX10_end_6 : decode cX10_end 6 = .ok (.getfield 10, 3) := by decide +kernel
theorem dX10_end_9 : decode cX10_end 9 = .ok (.getfield 95, 3) := by decide +kernel
theorem dX10_end_12 : decode cX10_end 12 = .ok (.if_icmp .le 5, 3) := by decide +kernel
theorem dX10_end_15 : decode cX10_end 15 = .ok (.iconst (-1), 1) := by decide +kernel
theorem dX10_end_16 : decode cX10_end 16 = .ok (.ireturn, 1) := by decide +kernel
theorem dX10_end_17 : decode cX10_end 17 = .ok (.aload_n 0, 1) := by decide +kernel
theorem dX10_end_18 : decode cX10_end 18 = .ok (.getfield 10, 3) := by decide +kernel
theorem dX10_end_21 : decode cX10_end 21 = .ok (.iload_n 1, 1) := by decide +kernel
theorem dX10_end_22 : decode cX10_end 22 = .ok (.putfield 95, 3) := by decide +kernel
theorem dX10_end_25 : decode cX10_end 25 = .ok (.iload_n 1, 1) := by decide +kernel
theorem dX10_end_26 : decode cX10_end 26 = .ok (.ireturn, 1) := by decide +kernel
theorem dX10_fails_0 : decode cX10_fails 0 = .ok (.aload_n 0, 1) := by decide +kernel
theorem dX10_fails_1 : decode cX10_fails 1 = .ok (.invokevirtual 203, 3) := by decide +kernel
theorem dX10_fails_4 : decode cX10_fails 4 = .ok (.ifCond .eq 18, 3) := by decide +kernel
theorem dX10_fails_7 : decode cX10_fails 7 = .ok (.iload_n 1, 1) := by decide +kernel
theorem dX10_fails_8 : decode cX10_fails 8 = .ok (.invokestatic 269, 3) := by decide +kernel
theorem dX10_fails_11 : decode cX10_fails 11 = .ok (.ifCond .eq 11, 3) := by decide +kernel
theorem dX10_fails_14 : decode cX10_fails 14 = .ok (.aload_n 0, 1) := by decide +kernel
theorem dX10_fails_15 : decode cX10_fails 15 = .ok (.iload_n 1, 1) := by decide +kernel
theorem dX10_fails_16 : decode cX10_fails 16 = .ok (.invokevirtual 272, 3) := by decide +kernel
theorem dX10_fails_19 : decode cX10_fails 19 = .ok (.goto 5, 3) := by decide +kernel
theorem dX10_fails_22 : decode cX10_fails 22 = .ok (.bipush (-2), 2) := by decide +kernel
theorem dX10_fails_24 : decode cX10_fails 24 = .ok (.ireturn, 1) := by decide +kernel
theorem dX10_fault_0 : decode cX10_fault 0 = .ok (.iload_n 1, 1) := by decide +kernel
theorem dX10_fault_1 : decode cX10_fault 1 = .ok (.ifCond .ne 11, 3) := by decide +kernel
theorem dX10_fault_4 : decode cX10_fault 4 = .ok (.aload_n 0, 1) := by decide +kernel
theorem dX10_fault_5 : decode cX10_fault 5 = .ok (.getfield 10, 3) := by decide +kernel
theorem dX10_fault_8 : decode cX10_fault 8 = .ok (.getfield 115, 3) := by decide +kernel
theorem dX10_fault_11 : decode cX10_fault 11 = .ok (.ireturn, 1) := by decide +kernel
theorem dX10_fault_12 : decode cX10_fault 12 = .ok (.iload_n 1, 1) := by decide +kernel
theorem dX10_fault_13 : decode cX10_fault 13 = .ok (.iconst 1, 1) := by decide +kernel
theorem dX10_fault_14 : decode cX10_fault 14 = .ok (.if_icmp .ne 13, 3) := by decide +kernel
theorem dX10_fault_17 : decode cX10_fault 17 = .ok (.aload_n 0, 1) := by decide +kernel
theorem dX10_fault_18 : decode cX10_fault 18 = .ok (.getfield 10, 3) := by decide +kernel
theorem dX10_fault_21 : decode cX10_fault 21 = .ok (.getfield 118, 3) := by decide +kernel
theorem dX10_fault_24 : decode cX10_fault 24 = .ok (.goto 4, 3) := by decide +kernel
theorem dX10_fault_27 : decode cX10_fault 27 = .ok (.iconst (-1), 1) := by decide +kernel
theorem dX10_fault_28 : decode cX10_fault 28 = .ok (.ireturn, 1) := by decide +kernel
theorem dX10_feed_0 : decode cX10_feed 0 = .ok (.aload_n 0, 1) := by decide +kernel
theorem dX10_feed_1 : decode cX10_feed 1 = .ok (.getfield 10, 3) := by decide +kernel
theorem dX10_feed_4 : decode cX10_feed 4 = .ok (.invokevirtual 87, 3) := by decide +kernel
theorem dX10_feed_7 : decode cX10_feed 7 = .ok (.ifCond .ne 5, 3) := by decide +kernel
theorem dX10_feed_10 : decode cX10_feed 10 = .ok (.iconst (-1), 1) := by decide +kernel
theorem dX10_feed_11 : decode cX10_feed 11 = .ok (.ireturn, 1) := by decide +kernel
theorem dX10_feed_12 : decode cX10_feed 12 = .ok (.aload_n 0, 1) := by decide +kernel
theorem dX10_feed_13 : decode cX10_feed 13 = .ok (.getfield 10, 3) := by decide +kernel
theorem dX10_feed_16 : decode cX10_feed 16 = .ok (.iload_n 1, 1) := by decide +kernel
theorem dX10_feed_17 : decode cX10_feed 17 = .ok (.invokevirtual 91, 3) := by decide +kernel
theorem dX10_feed_20 : decode cX10_feed 20 = .ok (.aload_n 0, 1) := by decide +kernel
theorem dX10_feed_21 : decode cX10_feed 21 = .ok (.getfield 10, 3) := by decide +kernel
theorem dX10_feed_24 : decode cX10_feed 24 = .ok (.iload_n 2, 1) := by decide +kernel
theorem dX10_feed_25 : decode cX10_feed 25 = .ok (.invokevirtual 91, 3) := by decide +kernel
theorem dX10_feed_28 : decode cX10_feed 28 = .ok (.aload_n 0, 1) := by decide +kernel
theorem dX10_feed_29 : decode cX10_feed 29 = .ok (.getfield 10, 3) := by decide +kernel
theorem dX10_feed_32 : decode cX10_feed 32 = .ok (.iload_n 3, 1) := by decide +kernel
theorem dX10_feed_33 : decode cX10_feed 33 = .ok (.invokevirtual 91, 3) := by decide +kernel
theorem dX10_feed_36 : decode cX10_feed 36 = .ok (.aload_n 0, 1) := by decide +kernel
theorem dX10_feed_37 : decode cX10_feed 37 = .ok (.getfield 10, 3) := by decide +kernel
theorem dX10_feed_40 : decode cX10_feed 40 = .ok (.iload 4, 2) := by decide +kernel
theorem dX10_feed_42 : decode cX10_feed 42 = .ok (.invokevirtual 91, 3) := by decide +kernel
theorem dX10_feed_45 : decode cX10_feed 45 = .ok (.aload_n 0, 1) := by decide +kernel
theorem dX10_feed_46 : decode cX10_feed 46 = .ok (.getfield 10, 3) := by decide +kernel
theorem dX10_feed_49 : decode cX10_feed 49 = .ok (.iload 5, 2) := by decide +kernel
theorem dX10_feed_51 : decode cX10_feed 51 = .ok (.invokevirtual 91, 3) := by decide +kernel
theorem dX10_feed_54 : decode cX10_feed 54 = .ok (.aload_n 0, 1) := by decide +kernel
theorem dX10_feed_55 : decode cX10_feed 55 = .ok (.getfield 10, 3) := by decide +kernel
theorem dX10_feed_58 : decode cX10_feed 58 = .ok (.getfield 95, 3) := by decide +kernel
theorem dX10_feed_61 : decode cX10_feed 61 = .ok (.ireturn, 1) := by decide +kernel
theorem dX10_filledSlots_0 : decode cX10_filledSlots 0 = .ok (.iconst 0, 1) := by decide +kernel
theorem dX10_filledSlots_1 : decode cX10_filledSlots 1 = .ok (.istore_n 1, 1) := by decide +kernel
theorem dX10_filledSlots_2 : decode cX10_filledSlots 2 = .ok (.iconst 0, 1) := by decide +kernel
theorem dX10_filledSlots_3 : decode cX10_filledSlots 3 = .ok (.istore_n 2, 1) := by decide +kernel
theorem dX10_filledSlots_4 : decode cX10_filledSlots 4 = .ok (.iload_n 2, 1) := by decide +kernel
theorem dX10_filledSlots_5 : decode cX10_filledSlots 5 = .ok (.iconst 4, 1) := by decide +kernel
theorem dX10_filledSlots_6 : decode cX10_filledSlots 6 = .ok (.if_icmp .ge 29, 3) := by decide +kernel
theorem dX10_filledSlots_9 : decode cX10_filledSlots 9 = .ok (.iload_n 1, 1) := by decide +kernel
theorem dX10_filledSlots_10 : decode cX10_filledSlots 10 = .ok (.aload_n 0, 1) := by decide +kernel
theorem dX10_filledSlots_11 : decode cX10_filledSlots 11 = .ok (.getfield 81, 3) := by decide +kernel
theorem dX10_filledSlots_14 : decode cX10_filledSlots 14 = .ok (.iload_n 2, 1) := by decide +kernel
theorem dX10_filledSlots_15 : decode cX10_filledSlots 15 = .ok (.aaload, 1) := by decide +kernel
theorem dX10_filledSlots_16 : decode cX10_filledSlots 16 = .ok (.invokevirtual 373, 3) := by decide +kernel
theorem dX10_filledSlots_19 : decode cX10_filledSlots 19 = .ok (.ifCond .eq 7, 3) := by decide +kernel
theorem dX10_filledSlots_22 : decode cX10_filledSlots 22 = .ok (.iconst 1, 1) := by decide +kernel
theorem dX10_filledSlots_23 : decode cX10_filledSlots 23 = .ok (.goto 4, 3) := by decide +kernel
theorem dX10_filledSlots_26 : decode cX10_filledSlots 26 = .ok (.iconst 0, 1) := by decide +kernel
theorem dX10_filledSlots_27 : decode cX10_filledSlots 27 = .ok (.iadd, 1) := by decide +kernel
theorem dX10_filledSlots_28 : decode cX10_filledSlots 28 = .ok (.istore_n 1, 1) := by decide +kernel
theorem dX10_filledSlots_29 : decode cX10_filledSlots 29 = .ok (.iinc 2 1, 3) := by decide +kernel
theorem dX10_filledSlots_32 : decode cX10_filledSlots 32 = .ok (.goto (-28), 3) := by decide +kernel
theorem dX10_filledSlots_35 : decode cX10_filledSlots 35 = .ok (.iload_n 1, 1) := by decide +kernel
theorem dX10_filledSlots_36 : decode cX10_filledSlots 36 = .ok (.ireturn, 1) := by decide +kernel
theorem dX10_forged_0 : decode cX10_forged 0 = .ok (.aload_n 0, 1) := by decide +kernel
theorem dX10_forged_1 : decode cX10_forged 1 = .ok (.iload_n 1, 1) := by decide +kernel
theorem dX10_forged_2 : decode cX10_forged 2 = .ok (.invokevirtual 321, 3) := by decide +kernel
theorem dX10_forged_5 : decode cX10_forged 5 = .ok (.istore_n 2, 1) := by decide +kernel
theorem dX10_forged_6 : decode cX10_forged 6 = .ok (.iload_n 2, 1) := by decide +kernel
theorem dX10_forged_7 : decode cX10_forged 7 = .ok (.ifCond .ne 13, 3) := by decide +kernel
theorem dX10_forged_10 : decode cX10_forged 10 = .ok (.aload_n 0, 1) := by decide +kernel
theorem dX10_forged_11 : decode cX10_forged 11 = .ok (.getfield 69, 3) := by decide +kernel
theorem dX10_forged_14 : decode cX10_forged 14 = .ok (.getfield 327, 3) := by decide +kernel
theorem dX10_forged_17 : decode cX10_forged 17 = .ok (.goto 4, 3) := by decide +kernel
theorem dX10_forged_20 : decode cX10_forged 20 = .ok (.iload_n 2, 1) := by decide +kernel
theorem dX10_forged_21 : decode cX10_forged 21 = .ok (.ireturn, 1) := by decide +kernel
theorem dX10_hardestHitBy_0 : decode cX10_hardestHitBy 0 = .ok (.iconst 0, 1) := by decide +kernel
theorem dX10_hardestHitBy_1 : decode cX10_hardestHitBy 1 = .ok (.istore_n 2, 1) := by decide +kernel
theorem dX10_hardestHitBy_2 : decode cX10_hardestHitBy 2 = .ok (.iconst (-1), 1) := by decide +kernel
theorem dX10_hardestHitBy_3 : decode cX10_hardestHitBy 3 = .ok (.istore_n 3, 1) := by decide +kernel
theorem dX10_hardestHitBy_4 : decode cX10_hardestHitBy 4 = .ok (.iconst 0, 1) := by decide +kernel
theorem dX10_hardestHitBy_5 : decode cX10_hardestHitBy 5 = .ok (.istore 4, 2) := by decide +kernel
theorem dX10_hardestHitBy_7 : decode cX10_hardestHitBy 7 = .ok (.iload 4, 2) := by decide +kernel
theorem dX10_hardestHitBy_9 : decode cX10_hardestHitBy 9 = .ok (.aload_n 0, 1) := by decide +kernel
theorem dX10_hardestHitBy_10 : decode cX10_hardestHitBy 10 = .ok (.getfield 19, 3) := by decide +kernel
theorem dX10_hardestHitBy_13 : decode cX10_hardestHitBy 13 = .ok (.getfield 255, 3) := by decide +kernel
theorem dX10_hardestHitBy_16 : decode cX10_hardestHitBy 16 = .ok (.if_icmp .ge 33, 3) := by decide +kernel
theorem dX10_hardestHitBy_19 : decode cX10_hardestHitBy 19 = .ok (.aload_n 0, 1) := by decide +kernel
theorem dX10_hardestHitBy_20 : decode cX10_hardestHitBy 20 = .ok (.getfield 38, 3) := by decide +kernel
theorem dX10_hardestHitBy_23 : decode cX10_hardestHitBy 23 = .ok (.iload 4, 2) := by decide +kernel
theorem dX10_hardestHitBy_25 : decode cX10_hardestHitBy 25 = .ok (.iload_n 1, 1) := by decide +kernel
theorem dX10_hardestHitBy_26 : decode cX10_hardestHitBy 26 = .ok (.invokevirtual 287, 3) := by decide +kernel
theorem dX10_hardestHitBy_29 : decode cX10_hardestHitBy 29 = .ok (.istore 5, 2) := by decide +kernel
theorem dX10_hardestHitBy_31 : decode cX10_hardestHitBy 31 = .ok (.iload 5, 2) := by decide +kernel
theorem dX10_hardestHitBy_33 : decode cX10_hardestHitBy 33 = .ok (.iload_n 2, 1) := by decide +kernel
theorem dX10_hardestHitBy_34 : decode cX10_hardestHitBy 34 = .ok (.if_icmp .le 9, 3) := by decide +kernel
theorem dX10_hardestHitBy_37 : decode cX10_hardestHitBy 37 = .ok (.iload 5, 2) := by decide +kernel
theorem dX10_hardestHitBy_39 : decode cX10_hardestHitBy 39 = .ok (.istore_n 2, 1) := by decide +kernel
theorem dX10_hardestHitBy_40 : decode cX10_hardestHitBy 40 = .ok (.iload 4, 2) := by decide +kernel
theorem dX10_hardestHitBy_42 : decode cX10_hardestHitBy 42 = .ok (.istore_n 3, 1) := by decide +kernel
theorem dX10_hardestHitBy_43 : decode cX10_hardestHitBy 43 = .ok (.iinc 4 1, 3) := by decide +kernel
theorem dX10_hardestHitBy_46 : decode cX10_hardestHitBy 46 = .ok (.goto (-39), 3) := by decide +kernel
theorem dX10_hardestHitBy_49 : decode cX10_hardestHitBy 49 = .ok (.iload_n 3, 1) := by decide +kernel
theorem dX10_hardestHitBy_50 : decode cX10_hardestHitBy 50 = .ok (.ireturn, 1) := by decide +kernel
theorem dX10_hasCity_0 : decode cX10_hasCity 0 = .ok (.aload_n 0, 1) := by decide +kernel
theorem dX10_hasCity_1 : decode cX10_hasCity 1 = .ok (.getfield 19, 3) := by decide +kernel
theorem dX10_hasCity_4 : decode cX10_hasCity 4 = .ok (.getfield 112, 3) := by decide +kernel
theorem dX10_hasCity_7 : decode cX10_hasCity 7 = .ok (.ifCond .le 7, 3) := by decide +kernel
theorem dX10_hasCity_10 : decode cX10_hasCity 10 = .ok (.iconst 1, 1) := by decide +kernel
theorem dX10_hasCity_11 : decode cX10_hasCity 11 = .ok (.goto 4, 3) := by decide +kernel
theorem dX10_hasCity_14 : decode cX10_hasCity 14 = .ok (.iconst 0, 1) := by decide +kernel
theorem dX10_hasCity_15 : decode cX10_hasCity 15 = .ok (.ireturn, 1) := by decide +kernel
theorem dX10_hit_0 : decode cX10_hit 0 = .ok (.aload_n 0, 1) := by decide +kernel
theorem dX10_hit_1 : decode cX10_hit 1 = .ok (.iload_n 1, 1) := by decide +kernel
theorem dX10_hit_2 : decode cX10_hit 2 = .ok (.invokevirtual 121, 3) := by decide +kernel
theorem dX10_hit_5 : decode cX10_hit 5 = .ok (.ifCond .ne 6, 3) := by decide +kernel
theorem dX10_hit_8 : decode cX10_hit 8 = .ok (.bipush (-2), 2) := by decide +kernel
theorem dX10_hit_10 : decode cX10_hit 10 = .ok (.ireturn, 1) := by decide +kernel
theorem dX10_hit_11 : decode cX10_hit 11 = .ok (.aload_n 0, 1) := by decide +kernel
theorem dX10_hit_12 : decode cX10_hit 12 = .ok (.iload_n 1, 1) := by decide +kernel
theorem dX10_hit_13 : decode cX10_hit 13 = .ok (.invokevirtual 284, 3) := by decide +kernel
theorem dX10_hit_16 : decode cX10_hit 16 = .ok (.istore_n 2, 1) := by decide +kernel
theorem dX10_hit_17 : decode cX10_hit 17 = .ok (.iload_n 2, 1) := by decide +kernel
theorem dX10_hit_18 : decode cX10_hit 18 = .ok (.iconst (-1), 1) := by decide +kernel
theorem dX10_hit_19 : decode cX10_hit 19 = .ok (.if_icmp .ne 7, 3) := by decide +kernel
theorem dX10_hit_22 : decode cX10_hit 22 = .ok (.iconst 0, 1) := by decide +kernel
theorem dX10_hit_23 : decode cX10_hit 23 = .ok (.goto 12, 3) := by decide +kernel
theorem dX10_hit_26 : decode cX10_hit 26 = .ok (.aload_n 0, 1) := by decide +kernel
theorem dX10_hit_27 : decode cX10_hit 27 = .ok (.getfield 38, 3) := by decide +kernel
theorem dX10_hit_30 : decode cX10_hit 30 = .ok (.iload_n 2, 1) := by decide +kernel
theorem dX10_hit_31 : decode cX10_hit 31 = .ok (.iload_n 1, 1) := by decide +kernel
theorem dX10_hit_32 : decode cX10_hit 32 = .ok (.invokevirtual 287, 3) := by decide +kernel
theorem dX10_hit_35 : decode cX10_hit 35 = .ok (.ireturn, 1) := by decide +kernel
theorem dX10_hits_0 : decode cX10_hits 0 = .ok (.aload_n 0, 1) := by decide +kernel
theorem dX10_hits_1 : decode cX10_hits 1 = .ok (.iload_n 1, 1) := by decide +kernel
theorem dX10_hits_2 : decode cX10_hits 2 = .ok (.invokevirtual 121, 3) := by decide +kernel
theorem dX10_hits_5 : decode cX10_hits 5 = .ok (.ifCond .eq 11, 3) := by decide +kernel
theorem dX10_hits_8 : decode cX10_hits 8 = .ok (.aload_n 0, 1) := by decide +kernel
theorem dX10_hits_9 : decode cX10_hits 9 = .ok (.iload_n 1, 1) := by decide +kernel
theorem dX10_hits_10 : decode cX10_hits 10 = .ok (.invokevirtual 284, 3) := by decide +kernel
theorem dX10_hits_13 : decode cX10_hits 13 = .ok (.goto 5, 3) := by decide +kernel
theorem dX10_hits_16 : decode cX10_hits 16 = .ok (.bipush (-2), 2) := by decide +kernel
theorem dX10_hits_18 : decode cX10_hits 18 = .ok (.ireturn, 1) := by decide +kernel
theorem dX10_house_0 : decode cX10_house 0 = .ok (.aload_n 0, 1) := by decide +kernel
theorem dX10_house_1 : decode cX10_house 1 = .ok (.iload_n 1, 1) := by decide +kernel
theorem dX10_house_2 : decode cX10_house 2 = .ok (.invokevirtual 121, 3) := by decide +kernel
theorem dX10_house_5 : decode cX10_house 5 = .ok (.ifCond .ne 6, 3) := by decide +kernel
theorem dX10_house_8 : decode cX10_house 8 = .ok (.bipush (-2), 2) := by decide +kernel
theorem dX10_house_10 : decode cX10_house 10 = .ok (.ireturn, 1) := by decide +kernel
theorem dX10_house_11 : decode cX10_house 11 = .ok (.iload_n 2, 1) := by decide +kernel
theorem dX10_house_12 : decode cX10_house 12 = .ok (.tableswitch 90 0 4 #[36, 46, 63, 72, 81], 36) := by decide +kernel
theorem dX10_house_48 : decode cX10_house 48 = .ok (.aload_n 0, 1) := by decide +kernel
theorem dX10_house_49 : decode cX10_house 49 = .ok (.getfield 38, 3) := by decide +kernel
theorem dX10_house_52 : decode cX10_house 52 = .ok (.getfield 125, 3) := by decide +kernel
theorem dX10_house_55 : decode cX10_house 55 = .ok (.iload_n 1, 1) := by decide +kernel
theorem dX10_house_56 : decode cX10_house 56 = .ok (.iaload, 1) := by decide +kernel
theorem dX10_house_57 : decode cX10_house 57 = .ok (.ireturn, 1) := by decide +kernel
theorem dX10_house_58 : decode cX10_house 58 = .ok (.aload_n 0, 1) := by decide +kernel
theorem dX10_house_59 : decode cX10_house 59 = .ok (.getfield 38, 3) := by decide +kernel
theorem dX10_house_62 : decode cX10_house 62 = .ok (.iload_n 1, 1) := by decide +kernel
theorem dX10_house_63 : decode cX10_house 63 = .ok (.invokevirtual 129, 3) := by decide +kernel
theorem dX10_house_66 : decode cX10_house 66 = .ok (.ifCond .eq 7, 3) := by decide +kernel
theorem dX10_house_69 : decode cX10_house 69 = .ok (.iconst 1, 1) := by decide +kernel
theorem dX10_house_70 : decode cX10_house 70 = .ok (.goto 4, 3) := by decide +kernel
theorem dX10_house_73 : decode cX10_house 73 = .ok (.iconst 0, 1) := by decide +kernel
theorem dX10_house_74 : decode cX10_house 74 = .ok (.ireturn, 1) := by decide +kernel
theorem dX10_house_75 : decode cX10_house 75 = .ok (.aload_n 0, 1) := by decide +kernel
theorem dX10_house_76 : decode cX10_house 76 = .ok (.getfield 38, 3) := by decide +kernel
theorem dX10_house_79 : decode cX10_house 79 = .ok (.iload_n 1, 1) := by decide +kernel
theorem dX10_house_80 : decode cX10_house 80 = .ok (.invokevirtual 132, 3) := by decide +kernel
theorem dX10_house_83 : decode cX10_house 83 = .ok (.ireturn, 1) := by decide +kernel
theorem dX10_house_84 : decode cX10_house 84 = .ok (.aload_n 0, 1) := by decide +kernel
theorem dX10_house_85 : decode cX10_house 85 = .ok (.getfield 38, 3) := by decide +kernel
theorem dX10_house_88 : decode cX10_house 88 = .ok (.iload_n 1, 1) := by decide +kernel
theorem dX10_house_89 : decode cX10_house 89 = .ok (.invokevirtual 136, 3) := by decide +kernel
theorem dX10_house_92 : decode cX10_house 92 = .ok (.ireturn, 1) := by decide +kernel
theorem dX10_house_93 : decode cX10_house 93 = .ok (.aload_n 0, 1) := by decide +kernel
theorem dX10_house_94 : decode cX10_house 94 = .ok (.getfield 38, 3) := by decide +kernel
theorem dX10_house_97 : decode cX10_house 97 = .ok (.iload_n 1, 1) := by decide +kernel
theorem dX10_house_98 : decode cX10_house 98 = .ok (.invokevirtual 139, 3) := by decide +kernel
theorem dX10_house_101 : decode cX10_house 101 = .ok (.ireturn, 1) := by decide +kernel
theorem dX10_house_102 : decode cX10_house 102 = .ok (.bipush (-2), 2) := by decide +kernel
theorem dX10_house_104 : decode cX10_house 104 = .ok (.ireturn, 1) := by decide +kernel
theorem dX10_image_0 : decode cX10_image 0 = .ok (.iload_n 1, 1) := by decide +kernel
theorem dX10_image_1 : decode cX10_image 1 = .ok (.ifCond .lt 8, 3) := by decide +kernel
theorem dX10_image_4 : decode cX10_image 4 = .ok (.iload_n 1, 1) := by decide +kernel
theorem dX10_image_5 : decode cX10_image 5 = .ok (.iconst 3, 1) := by decide +kernel
theorem dX10_image_6 : decode cX10_image 6 = .ok (.if_icmp .lt 6, 3) := by decide +kernel
theorem dX10_image_9 : decode cX10_image 9 = .ok (.bipush (-2), 2) := by decide +kernel
theorem dX10_image_11 : decode cX10_image 11 = .ok (.ireturn, 1) := by decide +kernel
theorem dX10_image_12 : decode cX10_image 12 = .ok (.aload_n 0, 1) := by decide +kernel
theorem dX10_image_13 : decode cX10_image 13 = .ok (.getfield 75, 3) := by decide +kernel
theorem dX10_image_16 : decode cX10_image 16 = .ok (.iload_n 1, 1) := by decide +kernel
theorem dX10_image_17 : decode cX10_image 17 = .ok (.aaload, 1) := by decide +kernel
theorem dX10_image_18 : decode cX10_image 18 = .ok (.astore_n 2, 1) := by decide +kernel
theorem dX10_image_19 : decode cX10_image 19 = .ok (.aload_n 2, 1) := by decide +kernel
theorem dX10_image_20 : decode cX10_image 20 = .ok (.iconst 1, 1) := by decide +kernel
theorem dX10_image_21 : decode cX10_image 21 = .ok (.putfield 358, 3) := by decide +kernel
theorem dX10_image_24 : decode cX10_image 24 = .ok (.aload_n 2, 1) := by decide +kernel
theorem dX10_image_25 : decode cX10_image 25 = .ok (.getfield 362, 3) := by decide +kernel
theorem dX10_image_28 : decode cX10_image 28 = .ok (.aload_n 0, 1) := by decide +kernel
theorem dX10_image_29 : decode cX10_image 29 = .ok (.getfield 19, 3) := by decide +kernel
theorem dX10_image_32 : decode cX10_image 32 = .ok (.invokevirtual 103, 3) := by decide +kernel
theorem dX10_image_35 : decode cX10_image 35 = .ok (.aload_n 2, 1) := by decide +kernel
theorem dX10_image_36 : decode cX10_image 36 = .ok (.getfield 363, 3) := by decide +kernel
theorem dX10_image_39 : decode cX10_image 39 = .ok (.aload_n 0, 1) := by decide +kernel
theorem dX10_image_40 : decode cX10_image 40 = .ok (.getfield 29, 3) := by decide +kernel
theorem dX10_image_43 : decode cX10_image 43 = .ok (.invokevirtual 364, 3) := by decide +kernel
theorem dX10_image_46 : decode cX10_image 46 = .ok (.iconst 0, 1) := by decide +kernel
theorem dX10_image_47 : decode cX10_image 47 = .ok (.ireturn, 1) := by decide +kernel
theorem dX10_init_0 : decode cX10_init 0 = .ok (.aload_n 0, 1) := by decide +kernel
theorem dX10_init_1 : decode cX10_init 1 = .ok (.invokespecial 1, 3) := by decide +kernel
theorem dX10_init_4 : decode cX10_init 4 = .ok (.aload_n 0, 1) := by decide +kernel
theorem dX10_init_5 : decode cX10_init 5 = .ok (.new 7, 3) := by decide +kernel
theorem dX10_init_8 : decode cX10_init 8 = .ok (.dup, 1) := by decide +kernel
theorem dX10_init_9 : decode cX10_init 9 = .ok (.invokespecial 9, 3) := by decide +kernel
theorem dX10_init_12 : decode cX10_init 12 = .ok (.putfield 10, 3) := by decide +kernel
theorem dX10_init_15 : decode cX10_init 15 = .ok (.aload_n 0, 1) := by decide +kernel
theorem dX10_init_16 : decode cX10_init 16 = .ok (.new 16, 3) := by decide +kernel
theorem dX10_init_19 : decode cX10_init 19 = .ok (.dup, 1) := by decide +kernel
theorem dX10_init_20 : decode cX10_init 20 = .ok (.invokespecial 18, 3) := by decide +kernel
theorem dX10_init_23 : decode cX10_init 23 = .ok (.putfield 19, 3) := by decide +kernel
theorem dX10_init_26 : decode cX10_init 26 = .ok (.aload_n 0, 1) := by decide +kernel
theorem dX10_init_27 : decode cX10_init 27 = .ok (.new 16, 3) := by decide +kernel
theorem dX10_init_30 : decode cX10_init 30 = .ok (.dup, 1) := by decide +kernel
theorem dX10_init_31 : decode cX10_init 31 = .ok (.invokespecial 18, 3) := by decide +kernel
theorem dX10_init_34 : decode cX10_init 34 = .ok (.putfield 23, 3) := by decide +kernel
theorem dX10_init_37 : decode cX10_init 37 = .ok (.aload_n 0, 1) := by decide +kernel
theorem dX10_init_38 : decode cX10_init 38 = .ok (.new 26, 3) := by decide +kernel
theorem dX10_init_41 : decode cX10_init 41 = .ok (.dup, 1) := by decide +kernel
theorem dX10_init_42 : decode cX10_init 42 = .ok (.invokespecial 28, 3) := by decide +kernel
theorem dX10_init_45 : decode cX10_init 45 = .ok (.putfield 29, 3) := by decide +kernel
theorem dX10_init_48 : decode cX10_init 48 = .ok (.aload_n 0, 1) := by decide +kernel
theorem dX10_init_49 : decode cX10_init 49 = .ok (.new 33, 3) := by decide +kernel
theorem dX10_init_52 : decode cX10_init 52 = .ok (.dup, 1) := by decide +kernel
theorem dX10_init_53 : decode cX10_init 53 = .ok (.aload_n 0, 1) := by decide +kernel
theorem dX10_init_54 : decode cX10_init 54 = .ok (.getfield 19, 3) := by decide +kernel
theorem dX10_init_57 : decode cX10_init 57 = .ok (.invokespecial 35, 3) := by decide +kernel
theorem dX10_init_60 : decode cX10_init 60 = .ok (.putfield 38, 3) := by decide +kernel
theorem dX10_init_63 : decode cX10_init 63 = .ok (.aload_n 0, 1) := by decide +kernel
theorem dX10_init_64 : decode cX10_init 64 = .ok (.new 33, 3) := by decide +kernel
theorem dX10_init_67 : decode cX10_init 67 = .ok (.dup, 1) := by decide +kernel
theorem dX10_init_68 : decode cX10_init 68 = .ok (.aload_n 0, 1) := by decide +kernel
theorem dX10_init_69 : decode cX10_init 69 = .ok (.getfield 19, 3) := by decide +kernel
theorem dX10_init_72 : decode cX10_init 72 = .ok (.invokespecial 35, 3) := by decide +kernel
theorem dX10_init_75 : decode cX10_init 75 = .ok (.putfield 42, 3) := by decide +kernel
theorem dX10_init_78 : decode cX10_init 78 = .ok (.aload_n 0, 1) := by decide +kernel
theorem dX10_init_79 : decode cX10_init 79 = .ok (.new 45, 3) := by decide +kernel
theorem dX10_init_82 : decode cX10_init 82 = .ok (.dup, 1) := by decide +kernel
theorem dX10_init_83 : decode cX10_init 83 = .ok (.invokespecial 47, 3) := by decide +kernel
theorem dX10_init_86 : decode cX10_init 86 = .ok (.putfield 48, 3) := by decide +kernel
theorem dX10_init_89 : decode cX10_init 89 = .ok (.aload_n 0, 1) := by decide +kernel
theorem dX10_init_90 : decode cX10_init 90 = .ok (.new 52, 3) := by decide +kernel
theorem dX10_init_93 : decode cX10_init 93 = .ok (.dup, 1) := by decide +kernel
theorem dX10_init_94 : decode cX10_init 94 = .ok (.invokespecial 54, 3) := by decide +kernel
theorem dX10_init_97 : decode cX10_init 97 = .ok (.putfield 55, 3) := by decide +kernel
theorem dX10_init_100 : decode cX10_init 100 = .ok (.aload_n 0, 1) := by decide +kernel
theorem dX10_init_101 : decode cX10_init 101 = .ok (.new 59, 3) := by decide +kernel
theorem dX10_init_104 : decode cX10_init 104 = .ok (.dup, 1) := by decide +kernel
theorem dX10_init_105 : decode cX10_init 105 = .ok (.invokespecial 61, 3) := by decide +kernel
theorem dX10_init_108 : decode cX10_init 108 = .ok (.putfield 62, 3) := by decide +kernel
theorem dX10_init_111 : decode cX10_init 111 = .ok (.aload_n 0, 1) := by decide +kernel
theorem dX10_init_112 : decode cX10_init 112 = .ok (.new 66, 3) := by decide +kernel
theorem dX10_init_115 : decode cX10_init 115 = .ok (.dup, 1) := by decide +kernel
theorem dX10_init_116 : decode cX10_init 116 = .ok (.invokespecial 68, 3) := by decide +kernel
theorem dX10_init_119 : decode cX10_init 119 = .ok (.putfield 69, 3) := by decide +kernel
theorem dX10_init_122 : decode cX10_init 122 = .ok (.aload_n 0, 1) := by decide +kernel
theorem dX10_init_123 : decode cX10_init 123 = .ok (.iconst 3, 1) := by decide +kernel
theorem dX10_init_124 : decode cX10_init 124 = .ok (.anewarray 73, 3) := by decide +kernel
theorem dX10_init_127 : decode cX10_init 127 = .ok (.putfield 75, 3) := by decide +kernel
theorem dX10_init_130 : decode cX10_init 130 = .ok (.aload_n 0, 1) := by decide +kernel
theorem dX10_init_131 : decode cX10_init 131 = .ok (.iconst 4, 1) := by decide +kernel
theorem dX10_init_132 : decode cX10_init 132 = .ok (.anewarray 79, 3) := by decide +kernel
theorem dX10_init_135 : decode cX10_init 135 = .ok (.putfield 81, 3) := by decide +kernel
theorem dX10_init_138 : decode cX10_init 138 = .ok (.iconst 0, 1) := by decide +kernel
theorem dX10_init_139 : decode cX10_init 139 = .ok (.istore_n 1, 1) := by decide +kernel
theorem dX10_init_140 : decode cX10_init 140 = .ok (.iload_n 1, 1) := by decide +kernel
theorem dX10_init_141 : decode cX10_init 141 = .ok (.iconst 3, 1) := by decide +kernel
theorem dX10_init_142 : decode cX10_init 142 = .ok (.if_icmp .ge 22, 3) := by decide +kernel
theorem dX10_init_145 : decode cX10_init 145 = .ok (.aload_n 0, 1) := by decide +kernel
theorem dX10_init_146 : decode cX10_init 146 = .ok (.getfield 75, 3) := by decide +kernel
theorem dX10_init_149 : decode cX10_init 149 = .ok (.iload_n 1, 1) := by decide +kernel
theorem dX10_init_150 : decode cX10_init 150 = .ok (.new 73, 3) := by decide +kernel
theorem dX10_init_153 : decode cX10_init 153 = .ok (.dup, 1) := by decide +kernel
theorem dX10_init_154 : decode cX10_init 154 = .ok (.invokespecial 85, 3) := by decide +kernel
theorem dX10_init_157 : decode cX10_init 157 = .ok (.aastore, 1) := by decide +kernel
theorem dX10_init_158 : decode cX10_init 158 = .ok (.iinc 1 1, 3) := by decide +kernel
theorem dX10_init_161 : decode cX10_init 161 = .ok (.goto (-21), 3) := by decide +kernel
theorem dX10_init_164 : decode cX10_init 164 = .ok (.iconst 0, 1) := by decide +kernel
theorem dX10_init_165 : decode cX10_init 165 = .ok (.istore_n 1, 1) := by decide +kernel
theorem dX10_init_166 : decode cX10_init 166 = .ok (.iload_n 1, 1) := by decide +kernel
theorem dX10_init_167 : decode cX10_init 167 = .ok (.iconst 4, 1) := by decide +kernel
theorem dX10_init_168 : decode cX10_init 168 = .ok (.if_icmp .ge 22, 3) := by decide +kernel
theorem dX10_init_171 : decode cX10_init 171 = .ok (.aload_n 0, 1) := by decide +kernel
theorem dX10_init_172 : decode cX10_init 172 = .ok (.getfield 81, 3) := by decide +kernel
theorem dX10_init_175 : decode cX10_init 175 = .ok (.iload_n 1, 1) := by decide +kernel
theorem dX10_init_176 : decode cX10_init 176 = .ok (.new 79, 3) := by decide +kernel
theorem dX10_init_179 : decode cX10_init 179 = .ok (.dup, 1) := by decide +kernel
theorem dX10_init_180 : decode cX10_init 180 = .ok (.invokespecial 86, 3) := by decide +kernel
theorem dX10_init_183 : decode cX10_init 183 = .ok (.aastore, 1) := by decide +kernel
theorem dX10_init_184 : decode cX10_init 184 = .ok (.iinc 1 1, 3) := by decide +kernel
theorem dX10_init_187 : decode cX10_init 187 = .ok (.goto (-21), 3) := by decide +kernel
theorem dX10_init_190 : decode cX10_init 190 = .ok (.return_, 1) := by decide +kernel
theorem dX10_isAtRest_0 : decode cX10_isAtRest 0 = .ok (.iconst 0, 1) := by decide +kernel
theorem dX10_isAtRest_1 : decode cX10_isAtRest 1 = .ok (.istore_n 3, 1) := by decide +kernel
theorem dX10_isAtRest_2 : decode cX10_isAtRest 2 = .ok (.iload_n 3, 1) := by decide +kernel
theorem dX10_isAtRest_3 : decode cX10_isAtRest 3 = .ok (.aload_n 0, 1) := by decide +kernel
theorem dX10_isAtRest_4 : decode cX10_isAtRest 4 = .ok (.getfield 19, 3) := by decide +kernel
theorem dX10_isAtRest_7 : decode cX10_isAtRest 7 = .ok (.getfield 255, 3) := by decide +kernel
theorem dX10_isAtRest_10 : decode cX10_isAtRest 10 = .ok (.if_icmp .ge 56, 3) := by decide +kernel
theorem dX10_isAtRest_13 : decode cX10_isAtRest 13 = .ok (.aload_n 0, 1) := by decide +kernel
theorem dX10_isAtRest_14 : decode cX10_isAtRest 14 = .ok (.getfield 38, 3) := by decide +kernel
theorem dX10_isAtRest_17 : decode cX10_isAtRest 17 = .ok (.iload_n 3, 1) := by decide +kernel
theorem dX10_isAtRest_18 : decode cX10_isAtRest 18 = .ok (.invokevirtual 313, 3) := by decide +kernel
theorem dX10_isAtRest_21 : decode cX10_isAtRest 21 = .ok (.istore 4, 2) := by decide +kernel
theorem dX10_isAtRest_23 : decode cX10_isAtRest 23 = .ok (.iload_n 1, 1) := by decide +kernel
theorem dX10_isAtRest_24 : decode cX10_isAtRest 24 = .ok (.iload_n 3, 1) := by decide +kernel
theorem dX10_isAtRest_25 : decode cX10_isAtRest 25 = .ok (.ishr, 1) := by decide +kernel
theorem dX10_isAtRest_26 : decode cX10_isAtRest 26 = .ok (.iconst 1, 1) := by decide +kernel
theorem dX10_isAtRest_27 : decode cX10_isAtRest 27 = .ok (.iand, 1) := by decide +kernel
theorem dX10_isAtRest_28 : decode cX10_isAtRest 28 = .ok (.ifCond .eq 7, 3) := by decide +kernel
theorem dX10_isAtRest_31 : decode cX10_isAtRest 31 = .ok (.iconst 1, 1) := by decide +kernel
theorem dX10_isAtRest_32 : decode cX10_isAtRest 32 = .ok (.goto 4, 3) := by decide +kernel
theorem dX10_isAtRest_35 : decode cX10_isAtRest 35 = .ok (.iconst 0, 1) := by decide +kernel
theorem dX10_isAtRest_36 : decode cX10_isAtRest 36 = .ok (.istore 5, 2) := by decide +kernel
theorem dX10_isAtRest_38 : decode cX10_isAtRest 38 = .ok (.iload 5, 2) := by decide +kernel
theorem dX10_isAtRest_40 : decode cX10_isAtRest 40 = .ok (.ifCond .eq 12, 3) := by decide +kernel
theorem dX10_isAtRest_43 : decode cX10_isAtRest 43 = .ok (.iload 4, 2) := by decide +kernel
theorem dX10_isAtRest_45 : decode cX10_isAtRest 45 = .ok (.iload_n 2, 1) := by decide +kernel
theorem dX10_isAtRest_46 : decode cX10_isAtRest 46 = .ok (.if_icmp .ge 14, 3) := by decide +kernel
theorem dX10_isAtRest_49 : decode cX10_isAtRest 49 = .ok (.goto 9, 3) := by decide +kernel
theorem dX10_isAtRest_52 : decode cX10_isAtRest 52 = .ok (.iload_n 2, 1) := by decide +kernel
theorem dX10_isAtRest_53 : decode cX10_isAtRest 53 = .ok (.iload 4, 2) := by decide +kernel
theorem dX10_isAtRest_55 : decode cX10_isAtRest 55 = .ok (.if_icmp .ge 5, 3) := by decide +kernel
theorem dX10_isAtRest_58 : decode cX10_isAtRest 58 = .ok (.iconst 0, 1) := by decide +kernel
theorem dX10_isAtRest_59 : decode cX10_isAtRest 59 = .ok (.ireturn, 1) := by decide +kernel
theorem dX10_isAtRest_60 : decode cX10_isAtRest 60 = .ok (.iinc 3 1, 3) := by decide +kernel
theorem dX10_isAtRest_63 : decode cX10_isAtRest 63 = .ok (.goto (-61), 3) := by decide +kernel
theorem dX10_isAtRest_66 : decode cX10_isAtRest 66 = .ok (.iconst 1, 1) := by decide +kernel
theorem dX10_isAtRest_67 : decode cX10_isAtRest 67 = .ok (.ireturn, 1) := by decide +kernel
theorem dX10_isCost_0 : decode cX10_isCost 0 = .ok (.iload_n 0, 1) := by decide +kernel
theorem dX10_isCost_1 : decode cX10_isCost 1 = .ok (.ifCond .lt 14, 3) := by decide +kernel
theorem dX10_isCost_4 : decode cX10_isCost 4 = .ok (.iload_n 0, 1) := by decide +kernel
theorem dX10_isCost_5 : decode cX10_isCost 5 = .ok (.sipush 999, 3) := by decide +kernel
theorem dX10_isCost_8 : decode cX10_isCost 8 = .ok (.if_icmp .gt 7, 3) := by decide +kernel
theorem dX10_isCost_11 : decode cX10_isCost 11 = .ok (.iconst 1, 1) := by decide +kernel
theorem dX10_isCost_12 : decode cX10_isCost 12 = .ok (.goto 4, 3) := by decide +kernel
theorem dX10_isCost_15 : decode cX10_isCost 15 = .ok (.iconst 0, 1) := by decide +kernel
theorem dX10_isCost_16 : decode cX10_isCost 16 = .ok (.ireturn, 1) := by decide +kernel
theorem dX10_isDrawable_0 : decode cX10_isDrawable 0 = .ok (.iload_n 0, 1) := by decide +kernel
theorem dX10_isDrawable_1 : decode cX10_isDrawable 1 = .ok (.ifCond .lt 24, 3) := by decide +kernel
theorem dX10_isDrawable_4 : decode cX10_isDrawable 4 = .ok (.iload_n 0, 1) := by decide +kernel
theorem dX10_isDrawable_5 : decode cX10_isDrawable 5 = .ok (.ldc_w 397, 3) := by decide +kernel
theorem dX10_isDrawable_8 : decode cX10_isDrawable 8 = .ok (.if_icmp .gt 17, 3) := by decide +kernel
theorem dX10_isDrawable_11 : decode cX10_isDrawable 11 = .ok (.iload_n 1, 1) := by decide +kernel
theorem dX10_isDrawable_12 : decode cX10_isDrawable 12 = .ok (.ifCond .lt 13, 3) := by decide +kernel
theorem dX10_isDrawable_15 : decode cX10_isDrawable 15 = .ok (.iload_n 1, 1) := by decide +kernel
theorem dX10_isDrawable_16 : decode cX10_isDrawable 16 = .ok (.bipush 40, 2) := by decide +kernel
theorem dX10_isDrawable_18 : decode cX10_isDrawable 18 = .ok (.if_icmp .gt 7, 3) := by decide +kernel
theorem dX10_isDrawable_21 : decode cX10_isDrawable 21 = .ok (.iconst 1, 1) := by decide +kernel
theorem dX10_isDrawable_22 : decode cX10_isDrawable 22 = .ok (.goto 4, 3) := by decide +kernel
theorem dX10_isDrawable_25 : decode cX10_isDrawable 25 = .ok (.iconst 0, 1) := by decide +kernel
theorem dX10_isDrawable_26 : decode cX10_isDrawable 26 = .ok (.ireturn, 1) := by decide +kernel
theorem dX10_isFull_0 : decode cX10_isFull 0 = .ok (.aload_n 0, 1) := by decide +kernel
theorem dX10_isFull_1 : decode cX10_isFull 1 = .ok (.getfield 29, 3) := by decide +kernel
theorem dX10_isFull_4 : decode cX10_isFull 4 = .ok (.getfield 106, 3) := by decide +kernel
theorem dX10_isFull_7 : decode cX10_isFull 7 = .ok (.bipush 60, 2) := by decide +kernel
theorem dX10_isFull_9 : decode cX10_isFull 9 = .ok (.if_icmp .lt 7, 3) := by decide +kernel
theorem dX10_isFull_12 : decode cX10_isFull 12 = .ok (.iconst 1, 1) := by decide +kernel
theorem dX10_isFull_13 : decode cX10_isFull 13 = .ok (.goto 4, 3) := by decide +kernel
theorem dX10_isFull_16 : decode cX10_isFull 16 = .ok (.iconst 0, 1) := by decide +kernel
theorem dX10_isFull_17 : decode cX10_isFull 17 = .ok (.ireturn, 1) := by decide +kernel
theorem dX10_isHouse_0 : decode cX10_isHouse 0 = .ok (.iload_n 1, 1) := by decide +kernel
theorem dX10_isHouse_1 : decode cX10_isHouse 1 = .ok (.ifCond .lt 18, 3) := by decide +kernel
theorem dX10_isHouse_4 : decode cX10_isHouse 4 = .ok (.iload_n 1, 1) := by decide +kernel
theorem dX10_isHouse_5 : decode cX10_isHouse 5 = .ok (.aload_n 0, 1) := by decide +kernel
theorem dX10_isHouse_6 : decode cX10_isHouse 6 = .ok (.getfield 19, 3) := by decide +kernel
theorem dX10_isHouse_9 : decode cX10_isHouse 9 = .ok (.getfield 255, 3) := by decide +kernel
theorem dX10_isHouse_12 : decode cX10_isHouse 12 = .ok (.if_icmp .ge 7, 3) := by decide +kernel
theorem dX10_isHouse_15 : decode cX10_isHouse 15 = .ok (.iconst 1, 1) := by decide +kernel
theorem dX10_isHouse_16 : decode cX10_isHouse 16 = .ok (.goto 4, 3) := by decide +kernel
theorem dX10_isHouse_19 : decode cX10_isHouse 19 = .ok (.iconst 0, 1) := by decide +kernel
theorem dX10_isHouse_20 : decode cX10_isHouse 20 = .ok (.ireturn, 1) := by decide +kernel
theorem dX10_isPaper_0 : decode cX10_isPaper 0 = .ok (.iload_n 1, 1) := by decide +kernel
theorem dX10_isPaper_1 : decode cX10_isPaper 1 = .ok (.ifCond .lt 18, 3) := by decide +kernel
theorem dX10_isPaper_4 : decode cX10_isPaper 4 = .ok (.iload_n 1, 1) := by decide +kernel
theorem dX10_isPaper_5 : decode cX10_isPaper 5 = .ok (.aload_n 0, 1) := by decide +kernel
theorem dX10_isPaper_6 : decode cX10_isPaper 6 = .ok (.getfield 38, 3) := by decide +kernel
theorem dX10_isPaper_9 : decode cX10_isPaper 9 = .ok (.getfield 339, 3) := by decide +kernel
theorem dX10_isPaper_12 : decode cX10_isPaper 12 = .ok (.if_icmp .ge 7, 3) := by decide +kernel
theorem dX10_isPaper_15 : decode cX10_isPaper 15 = .ok (.iconst 1, 1) := by decide +kernel
theorem dX10_isPaper_16 : decode cX10_isPaper 16 = .ok (.goto 4, 3) := by decide +kernel
theorem dX10_isPaper_19 : decode cX10_isPaper 19 = .ok (.iconst 0, 1) := by decide +kernel
theorem dX10_isPaper_20 : decode cX10_isPaper 20 = .ok (.ireturn, 1) := by decide +kernel
theorem dX10_isSlot_0 : decode cX10_isSlot 0 = .ok (.iload_n 0, 1) := by decide +kernel
theorem dX10_isSlot_1 : decode cX10_isSlot 1 = .ok (.ifCond .lt 12, 3) := by decide +kernel
theorem dX10_isSlot_4 : decode cX10_isSlot 4 = .ok (.iload_n 0, 1) := by decide +kernel
theorem dX10_isSlot_5 : decode cX10_isSlot 5 = .ok (.iconst 4, 1) := by decide +kernel
theorem dX10_isSlot_6 : decode cX10_isSlot 6 = .ok (.if_icmp .ge 7, 3) := by decide +kernel
theorem dX10_isSlot_9 : decode cX10_isSlot 9 = .ok (.iconst 1, 1) := by decide +kernel
theorem dX10_isSlot_10 : decode cX10_isSlot 10 = .ok (.goto 4, 3) := by decide +kernel
theorem dX10_isSlot_13 : decode cX10_isSlot 13 = .ok (.iconst 0, 1) := by decide +kernel
theorem dX10_isSlot_14 : decode cX10_isSlot 14 = .ok (.ireturn, 1) := by decide +kernel
theorem dX10_isSpan_0 : decode cX10_isSpan 0 = .ok (.iload_n 0, 1) := by decide +kernel
theorem dX10_isSpan_1 : decode cX10_isSpan 1 = .ok (.ifCond .lt 13, 3) := by decide +kernel
theorem dX10_isSpan_4 : decode cX10_isSpan 4 = .ok (.iload_n 0, 1) := by decide +kernel
theorem dX10_isSpan_5 : decode cX10_isSpan 5 = .ok (.bipush 60, 2) := by decide +kernel
theorem dX10_isSpan_7 : decode cX10_isSpan 7 = .ok (.if_icmp .gt 7, 3) := by decide +kernel
theorem dX10_isSpan_10 : decode cX10_isSpan 10 = .ok (.iconst 1, 1) := by decide +kernel
theorem dX10_isSpan_11 : decode cX10_isSpan 11 = .ok (.goto 4, 3) := by decide +kernel
theorem dX10_isSpan_14 : decode cX10_isSpan 14 = .ok (.iconst 0, 1) := by decide +kernel
theorem dX10_isSpan_15 : decode cX10_isSpan 15 = .ok (.ireturn, 1) := by decide +kernel
theorem dX10_isThing_0 : decode cX10_isThing 0 = .ok (.iload_n 1, 1) := by decide +kernel
theorem dX10_isThing_1 : decode cX10_isThing 1 = .ok (.ifCond .lt 18, 3) := by decide +kernel
theorem dX10_isThing_4 : decode cX10_isThing 4 = .ok (.iload_n 1, 1) := by decide +kernel
theorem dX10_isThing_5 : decode cX10_isThing 5 = .ok (.aload_n 0, 1) := by decide +kernel
theorem dX10_isThing_6 : decode cX10_isThing 6 = .ok (.getfield 19, 3) := by decide +kernel
theorem dX10_isThing_9 : decode cX10_isThing 9 = .ok (.getfield 296, 3) := by decide +kernel
theorem dX10_isThing_12 : decode cX10_isThing 12 = .ok (.if_icmp .ge 7, 3) := by decide +kernel
theorem dX10_isThing_15 : decode cX10_isThing 15 = .ok (.iconst 1, 1) := by decide +kernel
theorem dX10_isThing_16 : decode cX10_isThing 16 = .ok (.goto 4, 3) := by decide +kernel
theorem dX10_isThing_19 : decode cX10_isThing 19 = .ok (.iconst 0, 1) := by decide +kernel
theorem dX10_isThing_20 : decode cX10_isThing 20 = .ok (.ireturn, 1) := by decide +kernel
theorem dX10_lacks_0 : decode cX10_lacks 0 = .ok (.aload_n 0, 1) := by decide +kernel
theorem dX10_lacks_1 : decode cX10_lacks 1 = .ok (.iload_n 1, 1) := by decide +kernel
theorem dX10_lacks_2 : decode cX10_lacks 2 = .ok (.invokevirtual 121, 3) := by decide +kernel
theorem dX10_lacks_5 : decode cX10_lacks 5 = .ok (.ifCond .eq 14, 3) := by decide +kernel
theorem dX10_lacks_8 : decode cX10_lacks 8 = .ok (.aload_n 0, 1) := by decide +kernel
theorem dX10_lacks_9 : decode cX10_lacks 9 = .ok (.getfield 38, 3) := by decide +kernel
theorem dX10_lacks_12 : decode cX10_lacks 12 = .ok (.iload_n 1, 1) := by decide +kernel
theorem dX10_lacks_13 : decode cX10_lacks 13 = .ok (.invokevirtual 261, 3) := by decide +kernel
theorem dX10_lacks_16 : decode cX10_lacks 16 = .ok (.goto 5, 3) := by decide +kernel
theorem dX10_lacks_19 : decode cX10_lacks 19 = .ok (.bipush (-2), 2) := by decide +kernel
theorem dX10_lacks_21 : decode cX10_lacks 21 = .ok (.ireturn, 1) := by decide +kernel
theorem dX10_later_0 : decode cX10_later 0 = .ok (.aload_n 0, 1) := by decide +kernel
theorem dX10_later_1 : decode cX10_later 1 = .ok (.iload_n 1, 1) := by decide +kernel
theorem dX10_later_2 : decode cX10_later 2 = .ok (.invokevirtual 142, 3) := by decide +kernel
theorem dX10_later_5 : decode cX10_later 5 = .ok (.ifCond .eq 10, 3) := by decide +kernel
theorem dX10_later_8 : decode cX10_later 8 = .ok (.iload_n 2, 1) := by decide +kernel
theorem dX10_later_9 : decode cX10_later 9 = .ok (.invokestatic 269, 3) := by decide +kernel
theorem dX10_later_12 : decode cX10_later 12 = .ok (.ifCond .ne 6, 3) := by decide +kernel
theorem dX10_later_15 : decode cX10_later 15 = .ok (.bipush (-2), 2) := by decide +kernel
theorem dX10_later_17 : decode cX10_later 17 = .ok (.ireturn, 1) := by decide +kernel
theorem dX10_later_18 : decode cX10_later 18 = .ok (.aload_n 0, 1) := by decide +kernel
theorem dX10_later_19 : decode cX10_later 19 = .ok (.iload_n 2, 1) := by decide +kernel
theorem dX10_later_20 : decode cX10_later 20 = .ok (.invokevirtual 272, 3) := by decide +kernel
theorem dX10_later_23 : decode cX10_later 23 = .ok (.pop, 1) := by decide +kernel
theorem dX10_later_24 : decode cX10_later 24 = .ok (.aload_n 0, 1) := by decide +kernel
theorem dX10_later_25 : decode cX10_later 25 = .ok (.getfield 42, 3) := by decide +kernel
theorem dX10_later_28 : decode cX10_later 28 = .ok (.getfield 148, 3) := by decide +kernel
theorem dX10_later_31 : decode cX10_later 31 = .ok (.iload_n 1, 1) := by decide +kernel
theorem dX10_later_32 : decode cX10_later 32 = .ok (.iaload, 1) := by decide +kernel
theorem dX10_later_33 : decode cX10_later 33 = .ok (.ireturn, 1) := by decide +kernel
theorem dX10_lies_0 : decode cX10_lies 0 = .ok (.aload_n 0, 1) := by decide +kernel
theorem dX10_lies_1 : decode cX10_lies 1 = .ok (.iload_n 1, 1) := by decide +kernel
theorem dX10_lies_2 : decode cX10_lies 2 = .ok (.invokevirtual 121, 3) := by decide +kernel
theorem dX10_lies_5 : decode cX10_lies 5 = .ok (.ifCond .eq 14, 3) := by decide +kernel
theorem dX10_lies_8 : decode cX10_lies 8 = .ok (.aload_n 0, 1) := by decide +kernel
theorem dX10_lies_9 : decode cX10_lies 9 = .ok (.getfield 38, 3) := by decide +kernel
theorem dX10_lies_12 : decode cX10_lies 12 = .ok (.iload_n 1, 1) := by decide +kernel
theorem dX10_lies_13 : decode cX10_lies 13 = .ok (.invokevirtual 252, 3) := by decide +kernel
theorem dX10_lies_16 : decode cX10_lies 16 = .ok (.goto 5, 3) := by decide +kernel
theorem dX10_lies_19 : decode cX10_lies 19 = .ok (.bipush (-2), 2) := by decide +kernel
theorem dX10_lies_21 : decode cX10_lies 21 = .ok (.ireturn, 1) := by decide +kernel
theorem dX10_lock_0 : decode cX10_lock 0 = .ok (.aload_n 0, 1) := by decide +kernel
theorem dX10_lock_1 : decode cX10_lock 1 = .ok (.iload_n 1, 1) := by decide +kernel
theorem dX10_lock_2 : decode cX10_lock 2 = .ok (.invokevirtual 121, 3) := by decide +kernel
theorem dX10_lock_5 : decode cX10_lock 5 = .ok (.ifCond .eq 12, 3) := by decide +kernel
theorem dX10_lock_8 : decode cX10_lock 8 = .ok (.iload_n 2, 1) := by decide +kernel
theorem dX10_lock_9 : decode cX10_lock 9 = .ok (.ifCond .lt 8, 3) := by decide +kernel
theorem dX10_lock_12 : decode cX10_lock 12 = .ok (.iload_n 2, 1) := by decide +kernel
theorem dX10_lock_13 : decode cX10_lock 13 = .ok (.iconst 1, 1) := by decide +kernel
theorem dX10_lock_14 : decode cX10_lock 14 = .ok (.if_icmp .le 6, 3) := by decide +kernel
theorem dX10_lock_17 : decode cX10_lock 17 = .ok (.bipush (-2), 2) := by decide +kernel
theorem dX10_lock_19 : decode cX10_lock 19 = .ok (.ireturn, 1) := by decide +kernel
theorem dX10_lock_20 : decode cX10_lock 20 = .ok (.aload_n 0, 1) := by decide +kernel
theorem dX10_lock_21 : decode cX10_lock 21 = .ok (.invokevirtual 186, 3) := by decide +kernel
theorem dX10_lock_24 : decode cX10_lock 24 = .ok (.ifCond .eq 8, 3) := by decide +kernel
theorem dX10_lock_27 : decode cX10_lock 27 = .ok (.bipush (-5), 2) := by decide +kernel
theorem dX10_lock_29 : decode cX10_lock 29 = .ok (.goto 11, 3) := by decide +kernel
theorem dX10_lock_32 : decode cX10_lock 32 = .ok (.aload_n 0, 1) := by decide +kernel
theorem dX10_lock_33 : decode cX10_lock 33 = .ok (.iconst 4, 1) := by decide +kernel
theorem dX10_lock_34 : decode cX10_lock 34 = .ok (.iload_n 1, 1) := by decide +kernel
theorem dX10_lock_35 : decode cX10_lock 35 = .ok (.iload_n 2, 1) := by decide +kernel
theorem dX10_lock_36 : decode cX10_lock 36 = .ok (.iconst 0, 1) := by decide +kernel
theorem dX10_lock_37 : decode cX10_lock 37 = .ok (.invokevirtual 196, 3) := by decide +kernel
theorem dX10_lock_40 : decode cX10_lock 40 = .ok (.ireturn, 1) := by decide +kernel
theorem dX10_look_0 : decode cX10_look 0 = .ok (.iload_n 1, 1) := by decide +kernel
theorem dX10_look_1 : decode cX10_look 1 = .ok (.invokestatic 367, 3) := by decide +kernel
theorem dX10_look_4 : decode cX10_look 4 = .ok (.ifCond .eq 10, 3) := by decide +kernel
theorem dX10_look_7 : decode cX10_look 7 = .ok (.aload_n 0, 1) := by decide +kernel
theorem dX10_look_8 : decode cX10_look 8 = .ok (.invokevirtual 203, 3) := by decide +kernel
theorem dX10_look_11 : decode cX10_look 11 = .ok (.ifCond .ne 6, 3) := by decide +kernel
theorem dX10_look_14 : decode cX10_look 14 = .ok (.bipush (-2), 2) := by decide +kernel
theorem dX10_look_16 : decode cX10_look 16 = .ok (.ireturn, 1) := by decide +kernel
theorem dX10_look_17 : decode cX10_look 17 = .ok (.aload_n 0, 1) := by decide +kernel
theorem dX10_look_18 : decode cX10_look 18 = .ok (.getfield 81, 3) := by decide +kernel
theorem dX10_look_21 : decode cX10_look 21 = .ok (.iload_n 1, 1) := by decide +kernel
theorem dX10_look_22 : decode cX10_look 22 = .ok (.aaload, 1) := by decide +kernel
theorem dX10_look_23 : decode cX10_look 23 = .ok (.astore_n 2, 1) := by decide +kernel
theorem dX10_look_24 : decode cX10_look 24 = .ok (.aload_n 2, 1) := by decide +kernel
theorem dX10_look_25 : decode cX10_look 25 = .ok (.invokevirtual 373, 3) := by decide +kernel
theorem dX10_look_28 : decode cX10_look 28 = .ok (.ifCond .ne 6, 3) := by decide +kernel
theorem dX10_look_31 : decode cX10_look 31 = .ok (.bipush (-6), 2) := by decide +kernel
theorem dX10_look_33 : decode cX10_look 33 = .ok (.ireturn, 1) := by decide +kernel
theorem dX10_look_34 : decode cX10_look 34 = .ok (.aload_n 0, 1) := by decide +kernel
theorem dX10_look_35 : decode cX10_look 35 = .ok (.getfield 69, 3) := by decide +kernel
theorem dX10_look_38 : decode cX10_look 38 = .ok (.aload_n 2, 1) := by decide +kernel
theorem dX10_look_39 : decode cX10_look 39 = .ok (.aload_n 0, 1) := by decide +kernel
theorem dX10_look_40 : decode cX10_look 40 = .ok (.getfield 19, 3) := by decide +kernel
theorem dX10_look_43 : decode cX10_look 43 = .ok (.invokevirtual 407, 3) := by decide +kernel
theorem dX10_look_46 : decode cX10_look 46 = .ok (.ifCond .ne 6, 3) := by decide +kernel
theorem dX10_look_49 : decode cX10_look 49 = .ok (.bipush (-2), 2) := by decide +kernel
theorem dX10_look_51 : decode cX10_look 51 = .ok (.ireturn, 1) := by decide +kernel
theorem dX10_look_52 : decode cX10_look 52 = .ok (.aload_n 0, 1) := by decide +kernel
theorem dX10_look_53 : decode cX10_look 53 = .ok (.getfield 69, 3) := by decide +kernel
theorem dX10_look_56 : decode cX10_look 56 = .ok (.aload_n 2, 1) := by decide +kernel
theorem dX10_look_57 : decode cX10_look 57 = .ok (.aload_n 0, 1) := by decide +kernel
theorem dX10_look_58 : decode cX10_look 58 = .ok (.getfield 38, 3) := by decide +kernel
theorem dX10_look_61 : decode cX10_look 61 = .ok (.invokevirtual 411, 3) := by decide +kernel
theorem dX10_look_64 : decode cX10_look 64 = .ok (.iconst 0, 1) := by decide +kernel
theorem dX10_look_65 : decode cX10_look 65 = .ok (.ireturn, 1) := by decide +kernel
theorem dX10_luck_0 : decode cX10_luck 0 = .ok (.aload_n 0, 1) := by decide +kernel
theorem dX10_luck_1 : decode cX10_luck 1 = .ok (.iload 4, 2) := by decide +kernel
theorem dX10_luck_3 : decode cX10_luck 3 = .ok (.invokevirtual 142, 3) := by decide +kernel
theorem dX10_luck_6 : decode cX10_luck 6 = .ok (.ifCond .eq 31, 3) := by decide +kernel
theorem dX10_luck_9 : decode cX10_luck 9 = .ok (.aload_n 0, 1) := by decide +kernel
theorem dX10_luck_10 : decode cX10_luck 10 = .ok (.iload 5, 2) := by decide +kernel
theorem dX10_luck_12 : decode cX10_luck 12 = .ok (.invokevirtual 121, 3) := by decide +kernel
theorem dX10_luck_15 : decode cX10_luck 15 = .ok (.ifCond .eq 22, 3) := by decide +kernel
theorem dX10_luck_18 : decode cX10_luck 18 = .ok (.iload_n 1, 1) := by decide +kernel
theorem dX10_luck_19 : decode cX10_luck 19 = .ok (.iload_n 3, 1) := by decide +kernel
theorem dX10_luck_20 : decode cX10_luck 20 = .ok (.invokestatic 333, 3) := by decide +kernel
theorem dX10_luck_23 : decode cX10_luck 23 = .ok (.ifCond .eq 14, 3) := by decide +kernel
theorem dX10_luck_26 : decode cX10_luck 26 = .ok (.iload_n 2, 1) := by decide +kernel
theorem dX10_luck_27 : decode cX10_luck 27 = .ok (.iconst 1, 1) := by decide +kernel
theorem dX10_luck_28 : decode cX10_luck 28 = .ok (.if_icmp .lt 9, 3) := by decide +kernel
theorem dX10_luck_31 : decode cX10_luck 31 = .ok (.iload_n 2, 1) := by decide +kernel
theorem dX10_luck_32 : decode cX10_luck 32 = .ok (.bipush 20, 2) := by decide +kernel
theorem dX10_luck_34 : decode cX10_luck 34 = .ok (.if_icmp .le 6, 3) := by decide +kernel
theorem dX10_luck_37 : decode cX10_luck 37 = .ok (.bipush (-2), 2) := by decide +kernel
theorem dX10_luck_39 : decode cX10_luck 39 = .ok (.ireturn, 1) := by decide +kernel
theorem dX10_luck_40 : decode cX10_luck 40 = .ok (.iconst 0, 1) := by decide +kernel
theorem dX10_luck_41 : decode cX10_luck 41 = .ok (.istore 6, 2) := by decide +kernel
theorem dX10_luck_43 : decode cX10_luck 43 = .ok (.iconst 0, 1) := by decide +kernel
theorem dX10_luck_44 : decode cX10_luck 44 = .ok (.istore 7, 2) := by decide +kernel
theorem dX10_luck_46 : decode cX10_luck 46 = .ok (.iload 7, 2) := by decide +kernel
theorem dX10_luck_48 : decode cX10_luck 48 = .ok (.iload_n 2, 1) := by decide +kernel
theorem dX10_luck_49 : decode cX10_luck 49 = .ok (.if_icmp .ge 44, 3) := by decide +kernel
theorem dX10_luck_52 : decode cX10_luck 52 = .ok (.aload_n 0, 1) := by decide +kernel
theorem dX10_luck_53 : decode cX10_luck 53 = .ok (.iload_n 1, 1) := by decide +kernel
theorem dX10_luck_54 : decode cX10_luck 54 = .ok (.iload 7, 2) := by decide +kernel
theorem dX10_luck_56 : decode cX10_luck 56 = .ok (.iadd, 1) := by decide +kernel
theorem dX10_luck_57 : decode cX10_luck 57 = .ok (.iload_n 3, 1) := by decide +kernel
theorem dX10_luck_58 : decode cX10_luck 58 = .ok (.invokevirtual 336, 3) := by decide +kernel
theorem dX10_luck_61 : decode cX10_luck 61 = .ok (.pop, 1) := by decide +kernel
theorem dX10_luck_62 : decode cX10_luck 62 = .ok (.iload 6, 2) := by decide +kernel
theorem dX10_luck_64 : decode cX10_luck 64 = .ok (.aload_n 0, 1) := by decide +kernel
theorem dX10_luck_65 : decode cX10_luck 65 = .ok (.getfield 42, 3) := by decide +kernel
theorem dX10_luck_68 : decode cX10_luck 68 = .ok (.getfield 148, 3) := by decide +kernel
theorem dX10_luck_71 : decode cX10_luck 71 = .ok (.iload 4, 2) := by decide +kernel
theorem dX10_luck_73 : decode cX10_luck 73 = .ok (.iaload, 1) := by decide +kernel
theorem dX10_luck_74 : decode cX10_luck 74 = .ok (.iload 5, 2) := by decide +kernel
theorem dX10_luck_76 : decode cX10_luck 76 = .ok (.if_icmp .ne 7, 3) := by decide +kernel
theorem dX10_luck_79 : decode cX10_luck 79 = .ok (.iconst 1, 1) := by decide +kernel
theorem dX10_luck_80 : decode cX10_luck 80 = .ok (.goto 4, 3) := by decide +kernel
theorem dX10_luck_83 : decode cX10_luck 83 = .ok (.iconst 0, 1) := by decide +kernel
theorem dX10_luck_84 : decode cX10_luck 84 = .ok (.iadd, 1) := by decide +kernel
theorem dX10_luck_85 : decode cX10_luck 85 = .ok (.istore 6, 2) := by decide +kernel
theorem dX10_luck_87 : decode cX10_luck 87 = .ok (.iinc 7 1, 3) := by decide +kernel
theorem dX10_luck_90 : decode cX10_luck 90 = .ok (.goto (-44), 3) := by decide +kernel
theorem dX10_luck_93 : decode cX10_luck 93 = .ok (.iload 6, 2) := by decide +kernel
theorem dX10_luck_95 : decode cX10_luck 95 = .ok (.ireturn, 1) := by decide +kernel
theorem dX10_monday_0 : decode cX10_monday 0 = .ok (.aload_n 0, 1) := by decide +kernel
theorem dX10_monday_1 : decode cX10_monday 1 = .ok (.invokevirtual 203, 3) := by decide +kernel
theorem dX10_monday_4 : decode cX10_monday 4 = .ok (.ifCond .ne 6, 3) := by decide +kernel
theorem dX10_monday_7 : decode cX10_monday 7 = .ok (.bipush (-2), 2) := by decide +kernel
theorem dX10_monday_9 : decode cX10_monday 9 = .ok (.ireturn, 1) := by decide +kernel
theorem dX10_monday_10 : decode cX10_monday 10 = .ok (.iconst (-1), 1) := by decide +kernel
theorem dX10_monday_11 : decode cX10_monday 11 = .ok (.istore_n 1, 1) := by decide +kernel
theorem dX10_monday_12 : decode cX10_monday 12 = .ok (.iconst 0, 1) := by decide +kernel
theorem dX10_monday_13 : decode cX10_monday 13 = .ok (.istore_n 2, 1) := by decide +kernel
theorem dX10_monday_14 : decode cX10_monday 14 = .ok (.iconst 0, 1) := by decide +kernel
theorem dX10_monday_15 : decode cX10_monday 15 = .ok (.istore_n 3, 1) := by decide +kernel
theorem dX10_monday_16 : decode cX10_monday 16 = .ok (.iload_n 3, 1) := by decide +kernel
theorem dX10_monday_17 : decode cX10_monday 17 = .ok (.bipush 60, 2) := by decide +kernel
theorem dX10_monday_19 : decode cX10_monday 19 = .ok (.if_icmp .gt 33, 3) := by decide +kernel
theorem dX10_monday_22 : decode cX10_monday 22 = .ok (.aload_n 0, 1) := by decide +kernel
theorem dX10_monday_23 : decode cX10_monday 23 = .ok (.getfield 38, 3) := by decide +kernel
theorem dX10_monday_26 : decode cX10_monday 26 = .ok (.iload_n 3, 1) := by decide +kernel
theorem dX10_monday_27 : decode cX10_monday 27 = .ok (.invokevirtual 258, 3) := by decide +kernel
theorem dX10_monday_30 : decode cX10_monday 30 = .ok (.invokestatic 241, 3) := by decide +kernel
theorem dX10_monday_33 : decode cX10_monday 33 = .ok (.istore 4, 2) := by decide +kernel
theorem dX10_monday_35 : decode cX10_monday 35 = .ok (.iload 4, 2) := by decide +kernel
theorem dX10_monday_37 : decode cX10_monday 37 = .ok (.iload_n 2, 1) := by decide +kernel
theorem dX10_monday_38 : decode cX10_monday 38 = .ok (.if_icmp .le 8, 3) := by decide +kernel
theorem dX10_monday_41 : decode cX10_monday 41 = .ok (.iload 4, 2) := by decide +kernel
theorem dX10_monday_43 : decode cX10_monday 43 = .ok (.istore_n 2, 1) := by decide +kernel
theorem dX10_monday_44 : decode cX10_monday 44 = .ok (.iload_n 3, 1) := by decide +kernel
theorem dX10_monday_45 : decode cX10_monday 45 = .ok (.istore_n 1, 1) := by decide +kernel
theorem dX10_monday_46 : decode cX10_monday 46 = .ok (.iinc 3 1, 3) := by decide +kernel
theorem dX10_monday_49 : decode cX10_monday 49 = .ok (.goto (-33), 3) := by decide +kernel
theorem dX10_monday_52 : decode cX10_monday 52 = .ok (.iload_n 1, 1) := by decide +kernel
theorem dX10_monday_53 : decode cX10_monday 53 = .ok (.ireturn, 1) := by decide +kernel
theorem dX10_mostWanted_0 : decode cX10_mostWanted 0 = .ok (.iconst (-1), 1) := by decide +kernel
theorem dX10_mostWanted_1 : decode cX10_mostWanted 1 = .ok (.istore_n 3, 1) := by decide +kernel
theorem dX10_mostWanted_2 : decode cX10_mostWanted 2 = .ok (.iconst 0, 1) := by decide +kernel
theorem dX10_mostWanted_3 : decode cX10_mostWanted 3 = .ok (.istore 4, 2) := by decide +kernel
theorem dX10_mostWanted_5 : decode cX10_mostWanted 5 = .ok (.iconst 0, 1) := by decide +kernel
theorem dX10_mostWanted_6 : decode cX10_mostWanted 6 = .ok (.istore 5, 2) := by decide +kernel
theorem dX10_mostWanted_8 : decode cX10_mostWanted 8 = .ok (.iload 5, 2) := by decide +kernel
theorem dX10_mostWanted_10 : decode cX10_mostWanted 10 = .ok (.aload_n 0, 1) := by decide +kernel
theorem dX10_mostWanted_11 : decode cX10_mostWanted 11 = .ok (.getfield 19, 3) := by decide +kernel
theorem dX10_mostWanted_14 : decode cX10_mostWanted 14 = .ok (.getfield 296, 3) := by decide +kernel
theorem dX10_mostWanted_17 : decode cX10_mostWanted 17 = .ok (.if_icmp .ge 44, 3) := by decide +kernel
theorem dX10_mostWanted_20 : decode cX10_mostWanted 20 = .ok (.aload_n 0, 1) := by decide +kernel
theorem dX10_mostWanted_21 : decode cX10_mostWanted 21 = .ok (.getfield 19, 3) := by decide +kernel
theorem dX10_mostWanted_24 : decode cX10_mostWanted 24 = .ok (.iload_n 1, 1) := by decide +kernel
theorem dX10_mostWanted_25 : decode cX10_mostWanted 25 = .ok (.iload 5, 2) := by decide +kernel
theorem dX10_mostWanted_27 : decode cX10_mostWanted 27 = .ok (.invokevirtual 293, 3) := by decide +kernel
theorem dX10_mostWanted_30 : decode cX10_mostWanted 30 = .ok (.istore 6, 2) := by decide +kernel
theorem dX10_mostWanted_32 : decode cX10_mostWanted 32 = .ok (.iload_n 2, 1) := by decide +kernel
theorem dX10_mostWanted_33 : decode cX10_mostWanted 33 = .ok (.iload 5, 2) := by decide +kernel
theorem dX10_mostWanted_35 : decode cX10_mostWanted 35 = .ok (.ishr, 1) := by decide +kernel
theorem dX10_mostWanted_36 : decode cX10_mostWanted 36 = .ok (.iconst 1, 1) := by decide +kernel
theorem dX10_mostWanted_37 : decode cX10_mostWanted 37 = .ok (.iand, 1) := by decide +kernel
theorem dX10_mostWanted_38 : decode cX10_mostWanted 38 = .ok (.ifCond .eq 17, 3) := by decide +kernel
theorem dX10_mostWanted_41 : decode cX10_mostWanted 41 = .ok (.iload 6, 2) := by decide +kernel
theorem dX10_mostWanted_43 : decode cX10_mostWanted 43 = .ok (.iload 4, 2) := by decide +kernel
theorem dX10_mostWanted_45 : decode cX10_mostWanted 45 = .ok (.if_icmp .le 10, 3) := by decide +kernel
theorem dX10_mostWanted_48 : decode cX10_mostWanted 48 = .ok (.iload 6, 2) := by decide +kernel
theorem dX10_mostWanted_50 : decode cX10_mostWanted 50 = .ok (.istore 4, 2) := by decide +kernel
theorem dX10_mostWanted_52 : decode cX10_mostWanted 52 = .ok (.iload 5, 2) := by decide +kernel
theorem dX10_mostWanted_54 : decode cX10_mostWanted 54 = .ok (.istore_n 3, 1) := by decide +kernel
theorem dX10_mostWanted_55 : decode cX10_mostWanted 55 = .ok (.iinc 5 1, 3) := by decide +kernel
theorem dX10_mostWanted_58 : decode cX10_mostWanted 58 = .ok (.goto (-50), 3) := by decide +kernel
theorem dX10_mostWanted_61 : decode cX10_mostWanted 61 = .ok (.iload_n 3, 1) := by decide +kernel
theorem dX10_mostWanted_62 : decode cX10_mostWanted 62 = .ok (.ireturn, 1) := by decide +kernel
theorem dX10_needs_0 : decode cX10_needs 0 = .ok (.aload_n 0, 1) := by decide +kernel
theorem dX10_needs_1 : decode cX10_needs 1 = .ok (.iload_n 1, 1) := by decide +kernel
theorem dX10_needs_2 : decode cX10_needs 2 = .ok (.invokevirtual 121, 3) := by decide +kernel
theorem dX10_needs_5 : decode cX10_needs 5 = .ok (.ifCond .ne 6, 3) := by decide +kernel
theorem dX10_needs_8 : decode cX10_needs 8 = .ok (.bipush (-2), 2) := by decide +kernel
theorem dX10_needs_10 : decode cX10_needs 10 = .ok (.ireturn, 1) := by decide +kernel
theorem dX10_needs_11 : decode cX10_needs 11 = .ok (.aload_n 0, 1) := by decide +kernel
theorem dX10_needs_12 : decode cX10_needs 12 = .ok (.getfield 42, 3) := by decide +kernel
theorem dX10_needs_15 : decode cX10_needs 15 = .ok (.aload_n 0, 1) := by decide +kernel
theorem dX10_needs_16 : decode cX10_needs 16 = .ok (.getfield 38, 3) := by decide +kernel
theorem dX10_needs_19 : decode cX10_needs 19 = .ok (.invokevirtual 264, 3) := by decide +kernel
theorem dX10_needs_22 : decode cX10_needs 22 = .ok (.aload_n 0, 1) := by decide +kernel
theorem dX10_needs_23 : decode cX10_needs 23 = .ok (.getfield 42, 3) := by decide +kernel
theorem dX10_needs_26 : decode cX10_needs 26 = .ok (.iload_n 1, 1) := by decide +kernel
theorem dX10_needs_27 : decode cX10_needs 27 = .ok (.bipush 60, 2) := by decide +kernel
theorem dX10_needs_29 : decode cX10_needs 29 = .ok (.invokevirtual 266, 3) := by decide +kernel
theorem dX10_needs_32 : decode cX10_needs 32 = .ok (.ireturn, 1) := by decide +kernel
theorem dX10_net_0 : decode cX10_net 0 = .ok (.aload_n 0, 1) := by decide +kernel
theorem dX10_net_1 : decode cX10_net 1 = .ok (.iload_n 1, 1) := by decide +kernel
theorem dX10_net_2 : decode cX10_net 2 = .ok (.invokevirtual 121, 3) := by decide +kernel
theorem dX10_net_5 : decode cX10_net 5 = .ok (.ifCond .eq 14, 3) := by decide +kernel
theorem dX10_net_8 : decode cX10_net 8 = .ok (.aload_n 0, 1) := by decide +kernel
theorem dX10_net_9 : decode cX10_net 9 = .ok (.getfield 38, 3) := by decide +kernel
theorem dX10_net_12 : decode cX10_net 12 = .ok (.iload_n 1, 1) := by decide +kernel
theorem dX10_net_13 : decode cX10_net 13 = .ok (.invokevirtual 182, 3) := by decide +kernel
theorem dX10_net_16 : decode cX10_net 16 = .ok (.goto 5, 3) := by decide +kernel
theorem dX10_net_19 : decode cX10_net 19 = .ok (.ldc 185, 2) := by decide +kernel
theorem dX10_net_21 : decode cX10_net 21 = .ok (.ireturn, 1) := by decide +kernel
theorem dX10_night_0 : decode cX10_night 0 = .ok (.aload_n 0, 1) := by decide +kernel
theorem dX10_night_1 : decode cX10_night 1 = .ok (.invokevirtual 203, 3) := by decide +kernel
theorem dX10_night_4 : decode cX10_night 4 = .ok (.ifCond .ne 6, 3) := by decide +kernel
theorem dX10_night_7 : decode cX10_night 7 = .ok (.bipush (-2), 2) := by decide +kernel
theorem dX10_night_9 : decode cX10_night 9 = .ok (.ireturn, 1) := by decide +kernel
theorem dX10_night_10 : decode cX10_night 10 = .ok (.aload_n 0, 1) := by decide +kernel
theorem dX10_night_11 : decode cX10_night 11 = .ok (.invokevirtual 186, 3) := by decide +kernel
theorem dX10_night_14 : decode cX10_night 14 = .ok (.ifCond .eq 8, 3) := by decide +kernel
theorem dX10_night_17 : decode cX10_night 17 = .ok (.bipush (-5), 2) := by decide +kernel
theorem dX10_night_19 : decode cX10_night 19 = .ok (.goto 11, 3) := by decide +kernel
theorem dX10_night_22 : decode cX10_night 22 = .ok (.aload_n 0, 1) := by decide +kernel
theorem dX10_night_23 : decode cX10_night 23 = .ok (.iconst 5, 1) := by decide +kernel
theorem dX10_night_24 : decode cX10_night 24 = .ok (.iconst 0, 1) := by decide +kernel
theorem dX10_night_25 : decode cX10_night 25 = .ok (.iconst 0, 1) := by decide +kernel
theorem dX10_night_26 : decode cX10_night 26 = .ok (.iconst 0, 1) := by decide +kernel
theorem dX10_night_27 : decode cX10_night 27 = .ok (.invokevirtual 196, 3) := by decide +kernel
theorem dX10_night_30 : decode cX10_night 30 = .ok (.ireturn, 1) := by decide +kernel
theorem dX10_now_0 : decode cX10_now 0 = .ok (.aload_n 0, 1) := by decide +kernel
theorem dX10_now_1 : decode cX10_now 1 = .ok (.invokevirtual 203, 3) := by decide +kernel
theorem dX10_now_4 : decode cX10_now 4 = .ok (.ifCond .ne 6, 3) := by decide +kernel
theorem dX10_now_7 : decode cX10_now 7 = .ok (.bipush (-2), 2) := by decide +kernel
theorem dX10_now_9 : decode cX10_now 9 = .ok (.ireturn, 1) := by decide +kernel
theorem dX10_now_10 : decode cX10_now 10 = .ok (.iload_n 1, 1) := by decide +kernel
theorem dX10_now_11 : decode cX10_now 11 = .ok (.tableswitch 61 0 3 #[29, 37, 45, 53], 29) := by decide +kernel
theorem dX10_now_40 : decode cX10_now 40 = .ok (.aload_n 0, 1) := by decide +kernel
theorem dX10_now_41 : decode cX10_now 41 = .ok (.getfield 38, 3) := by decide +kernel
theorem dX10_now_44 : decode cX10_now 44 = .ok (.getfield 189, 3) := by decide +kernel
theorem dX10_now_47 : decode cX10_now 47 = .ok (.ireturn, 1) := by decide +kernel
theorem dX10_now_48 : decode cX10_now 48 = .ok (.aload_n 0, 1) := by decide +kernel
theorem dX10_now_49 : decode cX10_now 49 = .ok (.getfield 38, 3) := by decide +kernel
theorem dX10_now_52 : decode cX10_now 52 = .ok (.invokevirtual 210, 3) := by decide +kernel
theorem dX10_now_55 : decode cX10_now 55 = .ok (.ireturn, 1) := by decide +kernel
theorem dX10_now_56 : decode cX10_now 56 = .ok (.aload_n 0, 1) := by decide +kernel
theorem dX10_now_57 : decode cX10_now 57 = .ok (.getfield 38, 3) := by decide +kernel
theorem dX10_now_60 : decode cX10_now 60 = .ok (.invokevirtual 214, 3) := by decide +kernel
theorem dX10_now_63 : decode cX10_now 63 = .ok (.ireturn, 1) := by decide +kernel
theorem dX10_now_64 : decode cX10_now 64 = .ok (.aload_n 0, 1) := by decide +kernel
theorem dX10_now_65 : decode cX10_now 65 = .ok (.getfield 38, 3) := by decide +kernel
theorem dX10_now_68 : decode cX10_now 68 = .ok (.invokevirtual 217, 3) := by decide +kernel
theorem dX10_now_71 : decode cX10_now 71 = .ok (.ireturn, 1) := by decide +kernel
theorem dX10_now_72 : decode cX10_now 72 = .ok (.bipush (-2), 2) := by decide +kernel
theorem dX10_now_74 : decode cX10_now 74 = .ok (.ireturn, 1) := by decide +kernel
theorem dX10_owner_0 : decode cX10_owner 0 = .ok (.aload_n 0, 1) := by decide +kernel
theorem dX10_owner_1 : decode cX10_owner 1 = .ok (.iload_n 1, 1) := by decide +kernel
theorem dX10_owner_2 : decode cX10_owner 2 = .ok (.invokevirtual 142, 3) := by decide +kernel
theorem dX10_owner_5 : decode cX10_owner 5 = .ok (.ifCond .ne 6, 3) := by decide +kernel
theorem dX10_owner_8 : decode cX10_owner 8 = .ok (.bipush (-2), 2) := by decide +kernel
theorem dX10_owner_10 : decode cX10_owner 10 = .ok (.ireturn, 1) := by decide +kernel
theorem dX10_owner_11 : decode cX10_owner 11 = .ok (.aload_n 0, 1) := by decide +kernel
theorem dX10_owner_12 : decode cX10_owner 12 = .ok (.getfield 48, 3) := by decide +kernel
theorem dX10_owner_15 : decode cX10_owner 15 = .ok (.aload_n 0, 1) := by decide +kernel
theorem dX10_owner_16 : decode cX10_owner 16 = .ok (.getfield 38, 3) := by decide +kernel
theorem dX10_owner_19 : decode cX10_owner 19 = .ok (.iload_n 1, 1) := by decide +kernel
theorem dX10_owner_20 : decode cX10_owner 20 = .ok (.invokevirtual 220, 3) := by decide +kernel
theorem dX10_owner_23 : decode cX10_owner 23 = .ok (.aload_n 0, 1) := by decide +kernel
theorem dX10_owner_24 : decode cX10_owner 24 = .ok (.getfield 48, 3) := by decide +kernel
theorem dX10_owner_27 : decode cX10_owner 27 = .ok (.invokevirtual 224, 3) := by decide +kernel
theorem dX10_owner_30 : decode cX10_owner 30 = .ok (.ireturn, 1) := by decide +kernel
theorem dX10_owns_0 : decode cX10_owns 0 = .ok (.aload_n 0, 1) := by decide +kernel
theorem dX10_owns_1 : decode cX10_owns 1 = .ok (.iload_n 1, 1) := by decide +kernel
theorem dX10_owns_2 : decode cX10_owns 2 = .ok (.invokevirtual 121, 3) := by decide +kernel
theorem dX10_owns_5 : decode cX10_owns 5 = .ok (.ifCond .eq 11, 3) := by decide +kernel
theorem dX10_owns_8 : decode cX10_owns 8 = .ok (.aload_n 0, 1) := by decide +kernel
theorem dX10_owns_9 : decode cX10_owns 9 = .ok (.iload_n 1, 1) := by decide +kernel
theorem dX10_owns_10 : decode cX10_owns 10 = .ok (.invokevirtual 231, 3) := by decide +kernel
theorem dX10_owns_13 : decode cX10_owns 13 = .ok (.goto 5, 3) := by decide +kernel
theorem dX10_owns_16 : decode cX10_owns 16 = .ok (.bipush (-2), 2) := by decide +kernel
theorem dX10_owns_18 : decode cX10_owns 18 = .ok (.ireturn, 1) := by decide +kernel
theorem dX10_paper_0 : decode cX10_paper 0 = .ok (.aload_n 0, 1) := by decide +kernel
theorem dX10_paper_1 : decode cX10_paper 1 = .ok (.iload_n 1, 1) := by decide +kernel
theorem dX10_paper_2 : decode cX10_paper 2 = .ok (.invokevirtual 158, 3) := by decide +kernel
theorem dX10_paper_5 : decode cX10_paper 5 = .ok (.ifCond .ne 6, 3) := by decide +kernel
theorem dX10_paper_8 : decode cX10_paper 8 = .ok (.bipush (-2), 2) := by decide +kernel
theorem dX10_paper_10 : decode cX10_paper 10 = .ok (.ireturn, 1) := by decide +kernel
theorem dX10_paper_11 : decode cX10_paper 11 = .ok (.iload_n 2, 1) := by decide +kernel
theorem dX10_paper_12 : decode cX10_paper 12 = .ok (.tableswitch 86 0 4 #[36, 46, 56, 66, 76], 36) := by decide +kernel
theorem dX10_paper_48 : decode cX10_paper 48 = .ok (.aload_n 0, 1) := by decide +kernel
theorem dX10_paper_49 : decode cX10_paper 49 = .ok (.getfield 38, 3) := by decide +kernel
theorem dX10_paper_52 : decode cX10_paper 52 = .ok (.getfield 161, 3) := by decide +kernel
theorem dX10_paper_55 : decode cX10_paper 55 = .ok (.iload_n 1, 1) := by decide +kernel
theorem dX10_paper_56 : decode cX10_paper 56 = .ok (.iaload, 1) := by decide +kernel
theorem dX10_paper_57 : decode cX10_paper 57 = .ok (.ireturn, 1) := by decide +kernel
theorem dX10_paper_58 : decode cX10_paper 58 = .ok (.aload_n 0, 1) := by decide +kernel
theorem dX10_paper_59 : decode cX10_paper 59 = .ok (.getfield 38, 3) := by decide +kernel
theorem dX10_paper_62 : decode cX10_paper 62 = .ok (.getfield 164, 3) := by decide +kernel
theorem dX10_paper_65 : decode cX10_paper 65 = .ok (.iload_n 1, 1) := by decide +kernel
theorem dX10_paper_66 : decode cX10_paper 66 = .ok (.iaload, 1) := by decide +kernel
theorem dX10_paper_67 : decode cX10_paper 67 = .ok (.ireturn, 1) := by decide +kernel
theorem dX10_paper_68 : decode cX10_paper 68 = .ok (.aload_n 0, 1) := by decide +kernel
theorem dX10_paper_69 : decode cX10_paper 69 = .ok (.getfield 38, 3) := by decide +kernel
theorem dX10_paper_72 : decode cX10_paper 72 = .ok (.getfield 167, 3) := by decide +kernel
theorem dX10_paper_75 : decode cX10_paper 75 = .ok (.iload_n 1, 1) := by decide +kernel
theorem dX10_paper_76 : decode cX10_paper 76 = .ok (.iaload, 1) := by decide +kernel
theorem dX10_paper_77 : decode cX10_paper 77 = .ok (.ireturn, 1) := by decide +kernel
theorem dX10_paper_78 : decode cX10_paper 78 = .ok (.aload_n 0, 1) := by decide +kernel
theorem dX10_paper_79 : decode cX10_paper 79 = .ok (.getfield 38, 3) := by decide +kernel
theorem dX10_paper_82 : decode cX10_paper 82 = .ok (.getfield 170, 3) := by decide +kernel
theorem dX10_paper_85 : decode cX10_paper 85 = .ok (.iload_n 1, 1) := by decide +kernel
theorem dX10_paper_86 : decode cX10_paper 86 = .ok (.iaload, 1) := by decide +kernel
theorem dX10_paper_87 : decode cX10_paper 87 = .ok (.ireturn, 1) := by decide +kernel
theorem dX10_paper_88 : decode cX10_paper 88 = .ok (.aload_n 0, 1) := by decide +kernel
theorem dX10_paper_89 : decode cX10_paper 89 = .ok (.getfield 38, 3) := by decide +kernel
theorem dX10_paper_92 : decode cX10_paper 92 = .ok (.getfield 173, 3) := by decide +kernel
theorem dX10_paper_95 : decode cX10_paper 95 = .ok (.iload_n 1, 1) := by decide +kernel
theorem dX10_paper_96 : decode cX10_paper 96 = .ok (.iaload, 1) := by decide +kernel
theorem dX10_paper_97 : decode cX10_paper 97 = .ok (.ireturn, 1) := by decide +kernel
theorem dX10_paper_98 : decode cX10_paper 98 = .ok (.bipush (-2), 2) := by decide +kernel
theorem dX10_paper_100 : decode cX10_paper 100 = .ok (.ireturn, 1) := by decide +kernel
theorem dX10_paste_0 : decode cX10_paste 0 = .ok (.iload_n 1, 1) := by decide +kernel
theorem dX10_paste_1 : decode cX10_paste 1 = .ok (.invokestatic 367, 3) := by decide +kernel
theorem dX10_paste_4 : decode cX10_paste 4 = .ok (.ifCond .eq 10, 3) := by decide +kernel
theorem dX10_paste_7 : decode cX10_paste 7 = .ok (.iload_n 3, 1) := by decide +kernel
theorem dX10_paste_8 : decode cX10_paste 8 = .ok (.invokestatic 367, 3) := by decide +kernel
theorem dX10_paste_11 : decode cX10_paste 11 = .ok (.ifCond .ne 6, 3) := by decide +kernel
theorem dX10_paste_14 : decode cX10_paste 14 = .ok (.bipush (-2), 2) := by decide +kernel
theorem dX10_paste_16 : decode cX10_paste 16 = .ok (.ireturn, 1) := by decide +kernel
theorem dX10_paste_17 : decode cX10_paste 17 = .ok (.aload_n 0, 1) := by decide +kernel
theorem dX10_paste_18 : decode cX10_paste 18 = .ok (.getfield 81, 3) := by decide +kernel
theorem dX10_paste_21 : decode cX10_paste 21 = .ok (.iload_n 1, 1) := by decide +kernel
theorem dX10_paste_22 : decode cX10_paste 22 = .ok (.aaload, 1) := by decide +kernel
theorem dX10_paste_23 : decode cX10_paste 23 = .ok (.astore 6, 2) := by decide +kernel
theorem dX10_paste_25 : decode cX10_paste 25 = .ok (.aload_n 0, 1) := by decide +kernel
theorem dX10_paste_26 : decode cX10_paste 26 = .ok (.getfield 81, 3) := by decide +kernel
theorem dX10_paste_29 : decode cX10_paste 29 = .ok (.iload_n 3, 1) := by decide +kernel
theorem dX10_paste_30 : decode cX10_paste 30 = .ok (.aaload, 1) := by decide +kernel
theorem dX10_paste_31 : decode cX10_paste 31 = .ok (.astore 7, 2) := by decide +kernel
theorem dX10_paste_33 : decode cX10_paste 33 = .ok (.aload 6, 2) := by decide +kernel
theorem dX10_paste_35 : decode cX10_paste 35 = .ok (.invokevirtual 373, 3) := by decide +kernel
theorem dX10_paste_38 : decode cX10_paste 38 = .ok (.ifCond .eq 11, 3) := by decide +kernel
theorem dX10_paste_41 : decode cX10_paste 41 = .ok (.aload 7, 2) := by decide +kernel
theorem dX10_paste_43 : decode cX10_paste 43 = .ok (.invokevirtual 373, 3) := by decide +kernel
theorem dX10_paste_46 : decode cX10_paste 46 = .ok (.ifCond .ne 6, 3) := by decide +kernel
theorem dX10_paste_49 : decode cX10_paste 49 = .ok (.bipush (-6), 2) := by decide +kernel
theorem dX10_paste_51 : decode cX10_paste 51 = .ok (.ireturn, 1) := by decide +kernel
theorem dX10_paste_52 : decode cX10_paste 52 = .ok (.aload 6, 2) := by decide +kernel
theorem dX10_paste_54 : decode cX10_paste 54 = .ok (.getfield 381, 3) := by decide +kernel
theorem dX10_paste_57 : decode cX10_paste 57 = .ok (.aload 7, 2) := by decide +kernel
theorem dX10_paste_59 : decode cX10_paste 59 = .ok (.getfield 381, 3) := by decide +kernel
theorem dX10_paste_62 : decode cX10_paste 62 = .ok (.if_icmp .eq 6, 3) := by decide +kernel
theorem dX10_paste_65 : decode cX10_paste 65 = .ok (.bipush (-8), 2) := by decide +kernel
theorem dX10_paste_67 : decode cX10_paste 67 = .ok (.ireturn, 1) := by decide +kernel
theorem dX10_paste_68 : decode cX10_paste 68 = .ok (.aload 6, 2) := by decide +kernel
theorem dX10_paste_70 : decode cX10_paste 70 = .ok (.iload_n 2, 1) := by decide +kernel
theorem dX10_paste_71 : decode cX10_paste 71 = .ok (.iload 5, 2) := by decide +kernel
theorem dX10_paste_73 : decode cX10_paste 73 = .ok (.invokevirtual 384, 3) := by decide +kernel
theorem dX10_paste_76 : decode cX10_paste 76 = .ok (.ifCond .eq 15, 3) := by decide +kernel
theorem dX10_paste_79 : decode cX10_paste 79 = .ok (.aload 7, 2) := by decide +kernel
theorem dX10_paste_81 : decode cX10_paste 81 = .ok (.iload 4, 2) := by decide +kernel
theorem dX10_paste_83 : decode cX10_paste 83 = .ok (.iload 5, 2) := by decide +kernel
theorem dX10_paste_85 : decode cX10_paste 85 = .ok (.invokevirtual 384, 3) := by decide +kernel
theorem dX10_paste_88 : decode cX10_paste 88 = .ok (.ifCond .ne 6, 3) := by decide +kernel
theorem dX10_paste_91 : decode cX10_paste 91 = .ok (.bipush (-7), 2) := by decide +kernel
theorem dX10_paste_93 : decode cX10_paste 93 = .ok (.ireturn, 1) := by decide +kernel
theorem dX10_paste_94 : decode cX10_paste 94 = .ok (.aload 6, 2) := by decide +kernel
theorem dX10_paste_96 : decode cX10_paste 96 = .ok (.getfield 387, 3) := by decide +kernel
theorem dX10_paste_99 : decode cX10_paste 99 = .ok (.iload_n 2, 1) := by decide +kernel
theorem dX10_paste_100 : decode cX10_paste 100 = .ok (.aload 7, 2) := by decide +kernel
theorem dX10_paste_102 : decode cX10_paste 102 = .ok (.getfield 387, 3) := by decide +kernel
theorem dX10_paste_105 : decode cX10_paste 105 = .ok (.iload 4, 2) := by decide +kernel
theorem dX10_paste_107 : decode cX10_paste 107 = .ok (.iload 5, 2) := by decide +kernel
theorem dX10_paste_109 : decode cX10_paste 109 = .ok (.invokestatic 391, 3) := by decide +kernel
theorem dX10_paste_112 : decode cX10_paste 112 = .ok (.iconst 0, 1) := by decide +kernel
theorem dX10_paste_113 : decode cX10_paste 113 = .ok (.ireturn, 1) := by decide +kernel
theorem dX10_perform_0 : decode cX10_perform 0 = .ok (.aload_n 0, 1) := by decide +kernel
theorem dX10_perform_1 : decode cX10_perform 1 = .ok (.getfield 29, 3) := by decide +kernel
theorem dX10_perform_4 : decode cX10_perform 4 = .ok (.iload_n 1, 1) := by decide +kernel
theorem dX10_perform_5 : decode cX10_perform 5 = .ok (.iload_n 2, 1) := by decide +kernel
theorem dX10_perform_6 : decode cX10_perform 6 = .ok (.iload_n 3, 1) := by decide +kernel
theorem dX10_perform_7 : decode cX10_perform 7 = .ok (.iload 4, 2) := by decide +kernel
theorem dX10_perform_9 : decode cX10_perform 9 = .ok (.invokevirtual 398, 3) := by decide +kernel
theorem dX10_perform_12 : decode cX10_perform 12 = .ok (.aload_n 0, 1) := by decide +kernel
theorem dX10_perform_13 : decode cX10_perform 13 = .ok (.getfield 38, 3) := by decide +kernel
theorem dX10_perform_16 : decode cX10_perform 16 = .ok (.iload_n 1, 1) := by decide +kernel
theorem dX10_perform_17 : decode cX10_perform 17 = .ok (.iload_n 2, 1) := by decide +kernel
theorem dX10_perform_18 : decode cX10_perform 18 = .ok (.iload_n 3, 1) := by decide +kernel
theorem dX10_perform_19 : decode cX10_perform 19 = .ok (.iload 4, 2) := by decide +kernel
theorem dX10_perform_21 : decode cX10_perform 21 = .ok (.invokevirtual 401, 3) := by decide +kernel
theorem dX10_perform_24 : decode cX10_perform 24 = .ok (.ireturn, 1) := by decide +kernel
theorem dX10_plan_0 : decode cX10_plan 0 = .ok (.aload_n 0, 1) := by decide +kernel
theorem dX10_plan_1 : decode cX10_plan 1 = .ok (.iload_n 1, 1) := by decide +kernel
theorem dX10_plan_2 : decode cX10_plan 2 = .ok (.invokevirtual 121, 3) := by decide +kernel
theorem dX10_plan_5 : decode cX10_plan 5 = .ok (.ifCond .eq 13, 3) := by decide +kernel
theorem dX10_plan_8 : decode cX10_plan 8 = .ok (.iload_n 2, 1) := by decide +kernel
theorem dX10_plan_9 : decode cX10_plan 9 = .ok (.iconst 1, 1) := by decide +kernel
theorem dX10_plan_10 : decode cX10_plan 10 = .ok (.if_icmp .lt 8, 3) := by decide +kernel
theorem dX10_plan_13 : decode cX10_plan 13 = .ok (.iload_n 2, 1) := by decide +kernel
theorem dX10_plan_14 : decode cX10_plan 14 = .ok (.iconst 4, 1) := by decide +kernel
theorem dX10_plan_15 : decode cX10_plan 15 = .ok (.if_icmp .le 6, 3) := by decide +kernel
theorem dX10_plan_18 : decode cX10_plan 18 = .ok (.bipush (-2), 2) := by decide +kernel
theorem dX10_plan_20 : decode cX10_plan 20 = .ok (.ireturn, 1) := by decide +kernel
theorem dX10_plan_21 : decode cX10_plan 21 = .ok (.iconst 0, 1) := by decide +kernel
theorem dX10_plan_22 : decode cX10_plan 22 = .ok (.istore_n 3, 1) := by decide +kernel
theorem dX10_plan_23 : decode cX10_plan 23 = .ok (.iconst 0, 1) := by decide +kernel
theorem dX10_plan_24 : decode cX10_plan 24 = .ok (.istore 4, 2) := by decide +kernel
theorem dX10_plan_26 : decode cX10_plan 26 = .ok (.iload 4, 2) := by decide +kernel
theorem dX10_plan_28 : decode cX10_plan 28 = .ok (.iload_n 2, 1) := by decide +kernel
theorem dX10_plan_29 : decode cX10_plan 29 = .ok (.if_icmp .ge 41, 3) := by decide +kernel
theorem dX10_plan_32 : decode cX10_plan 32 = .ok (.aload_n 0, 1) := by decide +kernel
theorem dX10_plan_33 : decode cX10_plan 33 = .ok (.iload_n 1, 1) := by decide +kernel
theorem dX10_plan_34 : decode cX10_plan 34 = .ok (.iload 4, 2) := by decide +kernel
theorem dX10_plan_36 : decode cX10_plan 36 = .ok (.invokevirtual 290, 3) := by decide +kernel
theorem dX10_plan_39 : decode cX10_plan 39 = .ok (.istore 5, 2) := by decide +kernel
theorem dX10_plan_41 : decode cX10_plan 41 = .ok (.iload_n 3, 1) := by decide +kernel
theorem dX10_plan_42 : decode cX10_plan 42 = .ok (.iload 5, 2) := by decide +kernel
theorem dX10_plan_44 : decode cX10_plan 44 = .ok (.iconst (-1), 1) := by decide +kernel
theorem dX10_plan_45 : decode cX10_plan 45 = .ok (.if_icmp .ne 7, 3) := by decide +kernel
theorem dX10_plan_48 : decode cX10_plan 48 = .ok (.iconst 0, 1) := by decide +kernel
theorem dX10_plan_49 : decode cX10_plan 49 = .ok (.goto 13, 3) := by decide +kernel
theorem dX10_plan_52 : decode cX10_plan 52 = .ok (.aload_n 0, 1) := by decide +kernel
theorem dX10_plan_53 : decode cX10_plan 53 = .ok (.getfield 19, 3) := by decide +kernel
theorem dX10_plan_56 : decode cX10_plan 56 = .ok (.iload_n 1, 1) := by decide +kernel
theorem dX10_plan_57 : decode cX10_plan 57 = .ok (.iload 5, 2) := by decide +kernel
theorem dX10_plan_59 : decode cX10_plan 59 = .ok (.invokevirtual 293, 3) := by decide +kernel
theorem dX10_plan_62 : decode cX10_plan 62 = .ok (.iadd, 1) := by decide +kernel
theorem dX10_plan_63 : decode cX10_plan 63 = .ok (.istore_n 3, 1) := by decide +kernel
theorem dX10_plan_64 : decode cX10_plan 64 = .ok (.iinc 4 1, 3) := by decide +kernel
theorem dX10_plan_67 : decode cX10_plan 67 = .ok (.goto (-41), 3) := by decide +kernel
theorem dX10_plan_70 : decode cX10_plan 70 = .ok (.iload_n 3, 1) := by decide +kernel
theorem dX10_plan_71 : decode cX10_plan 71 = .ok (.ireturn, 1) := by decide +kernel
theorem dX10_plans_0 : decode cX10_plans 0 = .ok (.aload_n 0, 1) := by decide +kernel
theorem dX10_plans_1 : decode cX10_plans 1 = .ok (.iload_n 1, 1) := by decide +kernel
theorem dX10_plans_2 : decode cX10_plans 2 = .ok (.invokevirtual 121, 3) := by decide +kernel
theorem dX10_plans_5 : decode cX10_plans 5 = .ok (.ifCond .eq 13, 3) := by decide +kernel
theorem dX10_plans_8 : decode cX10_plans 8 = .ok (.iload_n 2, 1) := by decide +kernel
theorem dX10_plans_9 : decode cX10_plans 9 = .ok (.iconst 1, 1) := by decide +kernel
theorem dX10_plans_10 : decode cX10_plans 10 = .ok (.if_icmp .lt 8, 3) := by decide +kernel
theorem dX10_plans_13 : decode cX10_plans 13 = .ok (.iload_n 2, 1) := by decide +kernel
theorem dX10_plans_14 : decode cX10_plans 14 = .ok (.iconst 4, 1) := by decide +kernel
theorem dX10_plans_15 : decode cX10_plans 15 = .ok (.if_icmp .le 6, 3) := by decide +kernel
theorem dX10_plans_18 : decode cX10_plans 18 = .ok (.bipush (-2), 2) := by decide +kernel
theorem dX10_plans_20 : decode cX10_plans 20 = .ok (.ireturn, 1) := by decide +kernel
theorem dX10_plans_21 : decode cX10_plans 21 = .ok (.iload_n 3, 1) := by decide +kernel
theorem dX10_plans_22 : decode cX10_plans 22 = .ok (.ifCond .lt 17, 3) := by decide +kernel
theorem dX10_plans_25 : decode cX10_plans 25 = .ok (.iload_n 3, 1) := by decide +kernel
theorem dX10_plans_26 : decode cX10_plans 26 = .ok (.iload_n 2, 1) := by decide +kernel
theorem dX10_plans_27 : decode cX10_plans 27 = .ok (.if_icmp .ge 12, 3) := by decide +kernel
theorem dX10_plans_30 : decode cX10_plans 30 = .ok (.aload_n 0, 1) := by decide +kernel
theorem dX10_plans_31 : decode cX10_plans 31 = .ok (.iload_n 1, 1) := by decide +kernel
theorem dX10_plans_32 : decode cX10_plans 32 = .ok (.iload_n 3, 1) := by decide +kernel
theorem dX10_plans_33 : decode cX10_plans 33 = .ok (.invokevirtual 290, 3) := by decide +kernel
theorem dX10_plans_36 : decode cX10_plans 36 = .ok (.goto 4, 3) := by decide +kernel
theorem dX10_plans_39 : decode cX10_plans 39 = .ok (.iconst (-1), 1) := by decide +kernel
theorem dX10_plans_40 : decode cX10_plans 40 = .ok (.ireturn, 1) := by decide +kernel
theorem dX10_poorest_0 : decode cX10_poorest 0 = .ok (.aload_n 0, 1) := by decide +kernel
theorem dX10_poorest_1 : decode cX10_poorest 1 = .ok (.invokevirtual 203, 3) := by decide +kernel
theorem dX10_poorest_4 : decode cX10_poorest 4 = .ok (.ifCond .ne 6, 3) := by decide +kernel
theorem dX10_poorest_7 : decode cX10_poorest 7 = .ok (.bipush (-2), 2) := by decide +kernel
theorem dX10_poorest_9 : decode cX10_poorest 9 = .ok (.ireturn, 1) := by decide +kernel
theorem dX10_poorest_10 : decode cX10_poorest 10 = .ok (.iconst (-1), 1) := by decide +kernel
theorem dX10_poorest_11 : decode cX10_poorest 11 = .ok (.istore_n 1, 1) := by decide +kernel
theorem dX10_poorest_12 : decode cX10_poorest 12 = .ok (.iconst 0, 1) := by decide +kernel
theorem dX10_poorest_13 : decode cX10_poorest 13 = .ok (.istore_n 2, 1) := by decide +kernel
theorem dX10_poorest_14 : decode cX10_poorest 14 = .ok (.iconst 0, 1) := by decide +kernel
theorem dX10_poorest_15 : decode cX10_poorest 15 = .ok (.istore_n 3, 1) := by decide +kernel
theorem dX10_poorest_16 : decode cX10_poorest 16 = .ok (.iload_n 3, 1) := by decide +kernel
theorem dX10_poorest_17 : decode cX10_poorest 17 = .ok (.aload_n 0, 1) := by decide +kernel
theorem dX10_poorest_18 : decode cX10_poorest 18 = .ok (.getfield 19, 3) := by decide +kernel
theorem dX10_poorest_21 : decode cX10_poorest 21 = .ok (.getfield 255, 3) := by decide +kernel
theorem dX10_poorest_24 : decode cX10_poorest 24 = .ok (.if_icmp .ge 35, 3) := by decide +kernel
theorem dX10_poorest_27 : decode cX10_poorest 27 = .ok (.aload_n 0, 1) := by decide +kernel
theorem dX10_poorest_28 : decode cX10_poorest 28 = .ok (.getfield 38, 3) := by decide +kernel
theorem dX10_poorest_31 : decode cX10_poorest 31 = .ok (.iload_n 3, 1) := by decide +kernel
theorem dX10_poorest_32 : decode cX10_poorest 32 = .ok (.invokevirtual 182, 3) := by decide +kernel
theorem dX10_poorest_35 : decode cX10_poorest 35 = .ok (.istore 4, 2) := by decide +kernel
theorem dX10_poorest_37 : decode cX10_poorest 37 = .ok (.iload_n 1, 1) := by decide +kernel
theorem dX10_poorest_38 : decode cX10_poorest 38 = .ok (.iconst (-1), 1) := by decide +kernel
theorem dX10_poorest_39 : decode cX10_poorest 39 = .ok (.if_icmp .eq 9, 3) := by decide +kernel
theorem dX10_poorest_42 : decode cX10_poorest 42 = .ok (.iload 4, 2) := by decide +kernel
theorem dX10_poorest_44 : decode cX10_poorest 44 = .ok (.iload_n 2, 1) := by decide +kernel
theorem dX10_poorest_45 : decode cX10_poorest 45 = .ok (.if_icmp .ge 8, 3) := by decide +kernel
theorem dX10_poorest_48 : decode cX10_poorest 48 = .ok (.iload_n 3, 1) := by decide +kernel
theorem dX10_poorest_49 : decode cX10_poorest 49 = .ok (.istore_n 1, 1) := by decide +kernel
theorem dX10_poorest_50 : decode cX10_poorest 50 = .ok (.iload 4, 2) := by decide +kernel
theorem dX10_poorest_52 : decode cX10_poorest 52 = .ok (.istore_n 2, 1) := by decide +kernel
theorem dX10_poorest_53 : decode cX10_poorest 53 = .ok (.iinc 3 1, 3) := by decide +kernel
theorem dX10_poorest_56 : decode cX10_poorest 56 = .ok (.goto (-40), 3) := by decide +kernel
theorem dX10_poorest_59 : decode cX10_poorest 59 = .ok (.iload_n 1, 1) := by decide +kernel
theorem dX10_poorest_60 : decode cX10_poorest 60 = .ok (.ireturn, 1) := by decide +kernel
theorem dX10_price_0 : decode cX10_price 0 = .ok (.aload_n 0, 1) := by decide +kernel
theorem dX10_price_1 : decode cX10_price 1 = .ok (.iload_n 1, 1) := by decide +kernel
theorem dX10_price_2 : decode cX10_price 2 = .ok (.invokevirtual 158, 3) := by decide +kernel
theorem dX10_price_5 : decode cX10_price 5 = .ok (.ifCond .ne 6, 3) := by decide +kernel
theorem dX10_price_8 : decode cX10_price 8 = .ok (.bipush (-2), 2) := by decide +kernel
theorem dX10_price_10 : decode cX10_price 10 = .ok (.ireturn, 1) := by decide +kernel
theorem dX10_price_11 : decode cX10_price 11 = .ok (.aload_n 0, 1) := by decide +kernel
theorem dX10_price_12 : decode cX10_price 12 = .ok (.getfield 38, 3) := by decide +kernel
theorem dX10_price_15 : decode cX10_price 15 = .ok (.iload_n 1, 1) := by decide +kernel
theorem dX10_price_16 : decode cX10_price 16 = .ok (.invokevirtual 176, 3) := by decide +kernel
theorem dX10_price_19 : decode cX10_price 19 = .ok (.ifCond .eq 14, 3) := by decide +kernel
theorem dX10_price_22 : decode cX10_price 22 = .ok (.aload_n 0, 1) := by decide +kernel
theorem dX10_price_23 : decode cX10_price 23 = .ok (.getfield 38, 3) := by decide +kernel
theorem dX10_price_26 : decode cX10_price 26 = .ok (.iload_n 1, 1) := by decide +kernel
theorem dX10_price_27 : decode cX10_price 27 = .ok (.invokevirtual 179, 3) := by decide +kernel
theorem dX10_price_30 : decode cX10_price 30 = .ok (.goto 4, 3) := by decide +kernel
theorem dX10_price_33 : decode cX10_price 33 = .ok (.iconst (-1), 1) := by decide +kernel
theorem dX10_price_34 : decode cX10_price 34 = .ok (.ireturn, 1) := by decide +kernel
theorem dX10_purse_0 : decode cX10_purse 0 = .ok (.aload_n 0, 1) := by decide +kernel
theorem dX10_purse_1 : decode cX10_purse 1 = .ok (.iload_n 1, 1) := by decide +kernel
theorem dX10_purse_2 : decode cX10_purse 2 = .ok (.invokevirtual 121, 3) := by decide +kernel
theorem dX10_purse_5 : decode cX10_purse 5 = .ok (.ifCond .eq 10, 3) := by decide +kernel
theorem dX10_purse_8 : decode cX10_purse 8 = .ok (.iload_n 2, 1) := by decide +kernel
theorem dX10_purse_9 : decode cX10_purse 9 = .ok (.invokestatic 269, 3) := by decide +kernel
theorem dX10_purse_12 : decode cX10_purse 12 = .ok (.ifCond .ne 6, 3) := by decide +kernel
theorem dX10_purse_15 : decode cX10_purse 15 = .ok (.bipush (-2), 2) := by decide +kernel
theorem dX10_purse_17 : decode cX10_purse 17 = .ok (.ireturn, 1) := by decide +kernel
theorem dX10_purse_18 : decode cX10_purse 18 = .ok (.aload_n 0, 1) := by decide +kernel
theorem dX10_purse_19 : decode cX10_purse 19 = .ok (.iload_n 2, 1) := by decide +kernel
theorem dX10_purse_20 : decode cX10_purse 20 = .ok (.invokevirtual 272, 3) := by decide +kernel
theorem dX10_purse_23 : decode cX10_purse 23 = .ok (.pop, 1) := by decide +kernel
theorem dX10_purse_24 : decode cX10_purse 24 = .ok (.aload_n 0, 1) := by decide +kernel
theorem dX10_purse_25 : decode cX10_purse 25 = .ok (.getfield 42, 3) := by decide +kernel
theorem dX10_purse_28 : decode cX10_purse 28 = .ok (.getfield 125, 3) := by decide +kernel
theorem dX10_purse_31 : decode cX10_purse 31 = .ok (.iload_n 1, 1) := by decide +kernel
theorem dX10_purse_32 : decode cX10_purse 32 = .ok (.iaload, 1) := by decide +kernel
theorem dX10_purse_33 : decode cX10_purse 33 = .ok (.ireturn, 1) := by decide +kernel
theorem dX10_rate_0 : decode cX10_rate 0 = .ok (.aload_n 0, 1) := by decide +kernel
theorem dX10_rate_1 : decode cX10_rate 1 = .ok (.iload_n 1, 1) := by decide +kernel
theorem dX10_rate_2 : decode cX10_rate 2 = .ok (.invokevirtual 142, 3) := by decide +kernel
theorem dX10_rate_5 : decode cX10_rate 5 = .ok (.ifCond .eq 15, 3) := by decide +kernel
theorem dX10_rate_8 : decode cX10_rate 8 = .ok (.iload_n 2, 1) := by decide +kernel
theorem dX10_rate_9 : decode cX10_rate 9 = .ok (.iconst 1, 1) := by decide +kernel
theorem dX10_rate_10 : decode cX10_rate 10 = .ok (.if_icmp .lt 10, 3) := by decide +kernel
theorem dX10_rate_13 : decode cX10_rate 13 = .ok (.iload_n 2, 1) := by decide +kernel
theorem dX10_rate_14 : decode cX10_rate 14 = .ok (.sipush 999, 3) := by decide +kernel
theorem dX10_rate_17 : decode cX10_rate 17 = .ok (.if_icmp .le 6, 3) := by decide +kernel
theorem dX10_rate_20 : decode cX10_rate 20 = .ok (.bipush (-2), 2) := by decide +kernel
theorem dX10_rate_22 : decode cX10_rate 22 = .ok (.ireturn, 1) := by decide +kernel
theorem dX10_rate_23 : decode cX10_rate 23 = .ok (.aload_n 0, 1) := by decide +kernel
theorem dX10_rate_24 : decode cX10_rate 24 = .ok (.getfield 29, 3) := by decide +kernel
theorem dX10_rate_27 : decode cX10_rate 27 = .ok (.getfield 106, 3) := by decide +kernel
theorem dX10_rate_30 : decode cX10_rate 30 = .ok (.ifCond .le 6, 3) := by decide +kernel
theorem dX10_rate_33 : decode cX10_rate 33 = .ok (.bipush (-5), 2) := by decide +kernel
theorem dX10_rate_35 : decode cX10_rate 35 = .ok (.ireturn, 1) := by decide +kernel
theorem dX10_rate_36 : decode cX10_rate 36 = .ok (.aload_n 0, 1) := by decide +kernel
theorem dX10_rate_37 : decode cX10_rate 37 = .ok (.getfield 19, 3) := by decide +kernel
theorem dX10_rate_40 : decode cX10_rate 40 = .ok (.getfield 145, 3) := by decide +kernel
theorem dX10_rate_43 : decode cX10_rate 43 = .ok (.iload_n 1, 1) := by decide +kernel
theorem dX10_rate_44 : decode cX10_rate 44 = .ok (.iaload, 1) := by decide +kernel
theorem dX10_rate_45 : decode cX10_rate 45 = .ok (.istore_n 3, 1) := by decide +kernel
theorem dX10_rate_46 : decode cX10_rate 46 = .ok (.aload_n 0, 1) := by decide +kernel
theorem dX10_rate_47 : decode cX10_rate 47 = .ok (.getfield 19, 3) := by decide +kernel
theorem dX10_rate_50 : decode cX10_rate 50 = .ok (.getfield 145, 3) := by decide +kernel
theorem dX10_rate_53 : decode cX10_rate 53 = .ok (.iload_n 1, 1) := by decide +kernel
theorem dX10_rate_54 : decode cX10_rate 54 = .ok (.iload_n 2, 1) := by decide +kernel
theorem dX10_rate_55 : decode cX10_rate 55 = .ok (.iastore, 1) := by decide +kernel
theorem dX10_rate_56 : decode cX10_rate 56 = .ok (.iload_n 3, 1) := by decide +kernel
theorem dX10_rate_57 : decode cX10_rate 57 = .ok (.ireturn, 1) := by decide +kernel
theorem dX10_rest_0 : decode cX10_rest 0 = .ok (.aload_n 0, 1) := by decide +kernel
theorem dX10_rest_1 : decode cX10_rest 1 = .ok (.invokevirtual 203, 3) := by decide +kernel
theorem dX10_rest_4 : decode cX10_rest 4 = .ok (.ifCond .eq 10, 3) := by decide +kernel
theorem dX10_rest_7 : decode cX10_rest 7 = .ok (.iload_n 1, 1) := by decide +kernel
theorem dX10_rest_8 : decode cX10_rest 8 = .ok (.invokestatic 307, 3) := by decide +kernel
theorem dX10_rest_11 : decode cX10_rest 11 = .ok (.ifCond .ne 6, 3) := by decide +kernel
theorem dX10_rest_14 : decode cX10_rest 14 = .ok (.bipush (-2), 2) := by decide +kernel
theorem dX10_rest_16 : decode cX10_rest 16 = .ok (.ireturn, 1) := by decide +kernel
theorem dX10_rest_17 : decode cX10_rest 17 = .ok (.iconst 0, 1) := by decide +kernel
theorem dX10_rest_18 : decode cX10_rest 18 = .ok (.istore_n 2, 1) := by decide +kernel
theorem dX10_rest_19 : decode cX10_rest 19 = .ok (.iload_n 2, 1) := by decide +kernel
theorem dX10_rest_20 : decode cX10_rest 20 = .ok (.iconst 1, 1) := by decide +kernel
theorem dX10_rest_21 : decode cX10_rest 21 = .ok (.aload_n 0, 1) := by decide +kernel
theorem dX10_rest_22 : decode cX10_rest 22 = .ok (.getfield 19, 3) := by decide +kernel
theorem dX10_rest_25 : decode cX10_rest 25 = .ok (.getfield 255, 3) := by decide +kernel
theorem dX10_rest_28 : decode cX10_rest 28 = .ok (.ishl, 1) := by decide +kernel
theorem dX10_rest_29 : decode cX10_rest 29 = .ok (.if_icmp .ge 20, 3) := by decide +kernel
theorem dX10_rest_32 : decode cX10_rest 32 = .ok (.aload_n 0, 1) := by decide +kernel
theorem dX10_rest_33 : decode cX10_rest 33 = .ok (.iload_n 2, 1) := by decide +kernel
theorem dX10_rest_34 : decode cX10_rest 34 = .ok (.iload_n 1, 1) := by decide +kernel
theorem dX10_rest_35 : decode cX10_rest 35 = .ok (.invokevirtual 310, 3) := by decide +kernel
theorem dX10_rest_38 : decode cX10_rest 38 = .ok (.ifCond .eq 5, 3) := by decide +kernel
theorem dX10_rest_41 : decode cX10_rest 41 = .ok (.iload_n 2, 1) := by decide +kernel
theorem dX10_rest_42 : decode cX10_rest 42 = .ok (.ireturn, 1) := by decide +kernel
theorem dX10_rest_43 : decode cX10_rest 43 = .ok (.iinc 2 1, 3) := by decide +kernel
theorem dX10_rest_46 : decode cX10_rest 46 = .ok (.goto (-27), 3) := by decide +kernel
theorem dX10_rest_49 : decode cX10_rest 49 = .ok (.iconst (-1), 1) := by decide +kernel
theorem dX10_rest_50 : decode cX10_rest 50 = .ok (.ireturn, 1) := by decide +kernel
theorem dX10_rests_0 : decode cX10_rests 0 = .ok (.aload_n 0, 1) := by decide +kernel
theorem dX10_rests_1 : decode cX10_rests 1 = .ok (.invokevirtual 203, 3) := by decide +kernel
theorem dX10_rests_4 : decode cX10_rests 4 = .ok (.ifCond .eq 10, 3) := by decide +kernel
theorem dX10_rests_7 : decode cX10_rests 7 = .ok (.iload_n 1, 1) := by decide +kernel
theorem dX10_rests_8 : decode cX10_rests 8 = .ok (.invokestatic 307, 3) := by decide +kernel
theorem dX10_rests_11 : decode cX10_rests 11 = .ok (.ifCond .ne 6, 3) := by decide +kernel
theorem dX10_rests_14 : decode cX10_rests 14 = .ok (.bipush (-2), 2) := by decide +kernel
theorem dX10_rests_16 : decode cX10_rests 16 = .ok (.ireturn, 1) := by decide +kernel
theorem dX10_rests_17 : decode cX10_rests 17 = .ok (.iconst 0, 1) := by decide +kernel
theorem dX10_rests_18 : decode cX10_rests 18 = .ok (.istore_n 2, 1) := by decide +kernel
theorem dX10_rests_19 : decode cX10_rests 19 = .ok (.iconst 0, 1) := by decide +kernel
theorem dX10_rests_20 : decode cX10_rests 20 = .ok (.istore_n 3, 1) := by decide +kernel
theorem dX10_rests_21 : decode cX10_rests 21 = .ok (.iload_n 3, 1) := by decide +kernel
theorem dX10_rests_22 : decode cX10_rests 22 = .ok (.iconst 1, 1) := by decide +kernel
theorem dX10_rests_23 : decode cX10_rests 23 = .ok (.aload_n 0, 1) := by decide +kernel
theorem dX10_rests_24 : decode cX10_rests 24 = .ok (.getfield 19, 3) := by decide +kernel
theorem dX10_rests_27 : decode cX10_rests 27 = .ok (.getfield 255, 3) := by decide +kernel
theorem dX10_rests_30 : decode cX10_rests 30 = .ok (.ishl, 1) := by decide +kernel
theorem dX10_rests_31 : decode cX10_rests 31 = .ok (.if_icmp .ge 26, 3) := by decide +kernel
theorem dX10_rests_34 : decode cX10_rests 34 = .ok (.iload_n 2, 1) := by decide +kernel
theorem dX10_rests_35 : decode cX10_rests 35 = .ok (.aload_n 0, 1) := by decide +kernel
theorem dX10_rests_36 : decode cX10_rests 36 = .ok (.iload_n 3, 1) := by decide +kernel
theorem dX10_rests_37 : decode cX10_rests 37 = .ok (.iload_n 1, 1) := by decide +kernel
theorem dX10_rests_38 : decode cX10_rests 38 = .ok (.invokevirtual 310, 3) := by decide +kernel
theorem dX10_rests_41 : decode cX10_rests 41 = .ok (.ifCond .eq 7, 3) := by decide +kernel
theorem dX10_rests_44 : decode cX10_rests 44 = .ok (.iconst 1, 1) := by decide +kernel
theorem dX10_rests_45 : decode cX10_rests 45 = .ok (.goto 4, 3) := by decide +kernel
theorem dX10_rests_48 : decode cX10_rests 48 = .ok (.iconst 0, 1) := by decide +kernel
theorem dX10_rests_49 : decode cX10_rests 49 = .ok (.iadd, 1) := by decide +kernel
theorem dX10_rests_50 : decode cX10_rests 50 = .ok (.istore_n 2, 1) := by decide +kernel
theorem dX10_rests_51 : decode cX10_rests 51 = .ok (.iinc 3 1, 3) := by decide +kernel
theorem dX10_rests_54 : decode cX10_rests 54 = .ok (.goto (-33), 3) := by decide +kernel
theorem dX10_rests_57 : decode cX10_rests 57 = .ok (.iload_n 2, 1) := by decide +kernel
theorem dX10_rests_58 : decode cX10_rests 58 = .ok (.ireturn, 1) := by decide +kernel
theorem dX10_rings_0 : decode cX10_rings 0 = .ok (.aload_n 0, 1) := by decide +kernel
theorem dX10_rings_1 : decode cX10_rings 1 = .ok (.invokevirtual 203, 3) := by decide +kernel
theorem dX10_rings_4 : decode cX10_rings 4 = .ok (.ifCond .eq 11, 3) := by decide +kernel
theorem dX10_rings_7 : decode cX10_rings 7 = .ok (.aload_n 0, 1) := by decide +kernel
theorem dX10_rings_8 : decode cX10_rings 8 = .ok (.iconst (-1), 1) := by decide +kernel
theorem dX10_rings_9 : decode cX10_rings 9 = .ok (.invokevirtual 231, 3) := by decide +kernel
theorem dX10_rings_12 : decode cX10_rings 12 = .ok (.goto 5, 3) := by decide +kernel
theorem dX10_rings_15 : decode cX10_rings 15 = .ok (.bipush (-2), 2) := by decide +kernel
theorem dX10_rings_17 : decode cX10_rings 17 = .ok (.ireturn, 1) := by decide +kernel
theorem dX10_row_0 : decode cX10_row 0 = .ok (.iload_n 1, 1) := by decide +kernel
theorem dX10_row_1 : decode cX10_row 1 = .ok (.invokestatic 367, 3) := by decide +kernel
theorem dX10_row_4 : decode cX10_row 4 = .ok (.ifCond .eq 18, 3) := by decide +kernel
theorem dX10_row_7 : decode cX10_row 7 = .ok (.iload_n 2, 1) := by decide +kernel
theorem dX10_row_8 : decode cX10_row 8 = .ok (.ifCond .lt 14, 3) := by decide +kernel
theorem dX10_row_11 : decode cX10_row 11 = .ok (.iload_n 2, 1) := by decide +kernel
theorem dX10_row_12 : decode cX10_row 12 = .ok (.iconst 3, 1) := by decide +kernel
theorem dX10_row_13 : decode cX10_row 13 = .ok (.if_icmp .gt 9, 3) := by decide +kernel
theorem dX10_row_16 : decode cX10_row 16 = .ok (.iload_n 3, 1) := by decide +kernel
theorem dX10_row_17 : decode cX10_row 17 = .ok (.bipush 60, 2) := by decide +kernel
theorem dX10_row_19 : decode cX10_row 19 = .ok (.if_icmp .le 6, 3) := by decide +kernel
theorem dX10_row_22 : decode cX10_row 22 = .ok (.bipush (-2), 2) := by decide +kernel
theorem dX10_row_24 : decode cX10_row 24 = .ok (.ireturn, 1) := by decide +kernel
theorem dX10_row_25 : decode cX10_row 25 = .ok (.iload_n 3, 1) := by decide +kernel
theorem dX10_row_26 : decode cX10_row 26 = .ok (.ifCond .ge 6, 3) := by decide +kernel
theorem dX10_row_29 : decode cX10_row 29 = .ok (.bipush (-3), 2) := by decide +kernel
theorem dX10_row_31 : decode cX10_row 31 = .ok (.ireturn, 1) := by decide +kernel
theorem dX10_row_32 : decode cX10_row 32 = .ok (.aload_n 0, 1) := by decide +kernel
theorem dX10_row_33 : decode cX10_row 33 = .ok (.getfield 81, 3) := by decide +kernel
theorem dX10_row_36 : decode cX10_row 36 = .ok (.iload_n 1, 1) := by decide +kernel
theorem dX10_row_37 : decode cX10_row 37 = .ok (.aaload, 1) := by decide +kernel
theorem dX10_row_38 : decode cX10_row 38 = .ok (.iload_n 2, 1) := by decide +kernel
theorem dX10_row_39 : decode cX10_row 39 = .ok (.iload_n 3, 1) := by decide +kernel
theorem dX10_row_40 : decode cX10_row 40 = .ok (.invokevirtual 370, 3) := by decide +kernel
theorem dX10_row_43 : decode cX10_row 43 = .ok (.iconst 0, 1) := by decide +kernel
theorem dX10_row_44 : decode cX10_row 44 = .ok (.ireturn, 1) := by decide +kernel
theorem dX10_run_0 : decode cX10_run 0 = .ok (.aload_n 0, 1) := by decide +kernel
theorem dX10_run_1 : decode cX10_run 1 = .ok (.invokevirtual 203, 3) := by decide +kernel
theorem dX10_run_4 : decode cX10_run 4 = .ok (.ifCond .ne 6, 3) := by decide +kernel
theorem dX10_run_7 : decode cX10_run 7 = .ok (.bipush (-2), 2) := by decide +kernel
theorem dX10_run_9 : decode cX10_run 9 = .ok (.ireturn, 1) := by decide +kernel
theorem dX10_run_10 : decode cX10_run 10 = .ok (.aload_n 0, 1) := by decide +kernel
theorem dX10_run_11 : decode cX10_run 11 = .ok (.getfield 42, 3) := by decide +kernel
theorem dX10_run_14 : decode cX10_run 14 = .ok (.aload_n 0, 1) := by decide +kernel
theorem dX10_run_15 : decode cX10_run 15 = .ok (.getfield 38, 3) := by decide +kernel
theorem dX10_run_18 : decode cX10_run 18 = .ok (.invokevirtual 264, 3) := by decide +kernel
theorem dX10_run_21 : decode cX10_run 21 = .ok (.aload_n 0, 1) := by decide +kernel
theorem dX10_run_22 : decode cX10_run 22 = .ok (.getfield 42, 3) := by decide +kernel
theorem dX10_run_25 : decode cX10_run 25 = .ok (.invokevirtual 275, 3) := by decide +kernel
theorem dX10_run_28 : decode cX10_run 28 = .ok (.aload_n 0, 1) := by decide +kernel
theorem dX10_run_29 : decode cX10_run 29 = .ok (.getfield 42, 3) := by decide +kernel
theorem dX10_run_32 : decode cX10_run 32 = .ok (.aload_n 0, 1) := by decide +kernel
theorem dX10_run_33 : decode cX10_run 33 = .ok (.getfield 42, 3) := by decide +kernel
theorem dX10_run_36 : decode cX10_run 36 = .ok (.invokevirtual 278, 3) := by decide +kernel
theorem dX10_run_39 : decode cX10_run 39 = .ok (.invokevirtual 281, 3) := by decide +kernel
theorem dX10_run_42 : decode cX10_run 42 = .ok (.ireturn, 1) := by decide +kernel
theorem dX10_sell_0 : decode cX10_sell 0 = .ok (.aload_n 0, 1) := by decide +kernel
theorem dX10_sell_1 : decode cX10_sell 1 = .ok (.iload_n 1, 1) := by decide +kernel
theorem dX10_sell_2 : decode cX10_sell 2 = .ok (.invokevirtual 158, 3) := by decide +kernel
theorem dX10_sell_5 : decode cX10_sell 5 = .ok (.ifCond .eq 11, 3) := by decide +kernel
theorem dX10_sell_8 : decode cX10_sell 8 = .ok (.aload_n 0, 1) := by decide +kernel
theorem dX10_sell_9 : decode cX10_sell 9 = .ok (.iload_n 2, 1) := by decide +kernel
theorem dX10_sell_10 : decode cX10_sell 10 = .ok (.invokevirtual 121, 3) := by decide +kernel
theorem dX10_sell_13 : decode cX10_sell 13 = .ok (.ifCond .ne 6, 3) := by decide +kernel
theorem dX10_sell_16 : decode cX10_sell 16 = .ok (.bipush (-2), 2) := by decide +kernel
theorem dX10_sell_18 : decode cX10_sell 18 = .ok (.ireturn, 1) := by decide +kernel
theorem dX10_sell_19 : decode cX10_sell 19 = .ok (.aload_n 0, 1) := by decide +kernel
theorem dX10_sell_20 : decode cX10_sell 20 = .ok (.invokevirtual 186, 3) := by decide +kernel
theorem dX10_sell_23 : decode cX10_sell 23 = .ok (.ifCond .ne 47, 3) := by decide +kernel
theorem dX10_sell_26 : decode cX10_sell 26 = .ok (.aload_n 0, 1) := by decide +kernel
theorem dX10_sell_27 : decode cX10_sell 27 = .ok (.getfield 38, 3) := by decide +kernel
theorem dX10_sell_30 : decode cX10_sell 30 = .ok (.iload_n 1, 1) := by decide +kernel
theorem dX10_sell_31 : decode cX10_sell 31 = .ok (.invokevirtual 176, 3) := by decide +kernel
theorem dX10_sell_34 : decode cX10_sell 34 = .ok (.ifCond .eq 36, 3) := by decide +kernel
theorem dX10_sell_37 : decode cX10_sell 37 = .ok (.aload_n 0, 1) := by decide +kernel
theorem dX10_sell_38 : decode cX10_sell 38 = .ok (.getfield 38, 3) := by decide +kernel
theorem dX10_sell_41 : decode cX10_sell 41 = .ok (.getfield 167, 3) := by decide +kernel
theorem dX10_sell_44 : decode cX10_sell 44 = .ok (.iload_n 1, 1) := by decide +kernel
theorem dX10_sell_45 : decode cX10_sell 45 = .ok (.iaload, 1) := by decide +kernel
theorem dX10_sell_46 : decode cX10_sell 46 = .ok (.iload_n 2, 1) := by decide +kernel
theorem dX10_sell_47 : decode cX10_sell 47 = .ok (.if_icmp .eq 23, 3) := by decide +kernel
theorem dX10_sell_50 : decode cX10_sell 50 = .ok (.aload_n 0, 1) := by decide +kernel
theorem dX10_sell_51 : decode cX10_sell 51 = .ok (.getfield 38, 3) := by decide +kernel
theorem dX10_sell_54 : decode cX10_sell 54 = .ok (.getfield 125, 3) := by decide +kernel
theorem dX10_sell_57 : decode cX10_sell 57 = .ok (.iload_n 2, 1) := by decide +kernel
theorem dX10_sell_58 : decode cX10_sell 58 = .ok (.iaload, 1) := by decide +kernel
theorem dX10_sell_59 : decode cX10_sell 59 = .ok (.aload_n 0, 1) := by decide +kernel
theorem dX10_sell_60 : decode cX10_sell 60 = .ok (.getfield 38, 3) := by decide +kernel
theorem dX10_sell_63 : decode cX10_sell 63 = .ok (.iload_n 1, 1) := by decide +kernel
theorem dX10_sell_64 : decode cX10_sell 64 = .ok (.invokevirtual 179, 3) := by decide +kernel
theorem dX10_sell_67 : decode cX10_sell 67 = .ok (.if_icmp .ge 6, 3) := by decide +kernel
theorem dX10_sell_70 : decode cX10_sell 70 = .ok (.bipush (-5), 2) := by decide +kernel
theorem dX10_sell_72 : decode cX10_sell 72 = .ok (.ireturn, 1) := by decide +kernel
theorem dX10_sell_73 : decode cX10_sell 73 = .ok (.aload_n 0, 1) := by decide +kernel
theorem dX10_sell_74 : decode cX10_sell 74 = .ok (.iconst 1, 1) := by decide +kernel
theorem dX10_sell_75 : decode cX10_sell 75 = .ok (.iload_n 1, 1) := by decide +kernel
theorem dX10_sell_76 : decode cX10_sell 76 = .ok (.iload_n 2, 1) := by decide +kernel
theorem dX10_sell_77 : decode cX10_sell 77 = .ok (.iconst 0, 1) := by decide +kernel
theorem dX10_sell_78 : decode cX10_sell 78 = .ok (.invokevirtual 196, 3) := by decide +kernel
theorem dX10_sell_81 : decode cX10_sell 81 = .ok (.ireturn, 1) := by decide +kernel
theorem dX10_steal_0 : decode cX10_steal 0 = .ok (.aload_n 0, 1) := by decide +kernel
theorem dX10_steal_1 : decode cX10_steal 1 = .ok (.iload_n 1, 1) := by decide +kernel
theorem dX10_steal_2 : decode cX10_steal 2 = .ok (.invokevirtual 121, 3) := by decide +kernel
theorem dX10_steal_5 : decode cX10_steal 5 = .ok (.ifCond .eq 22, 3) := by decide +kernel
theorem dX10_steal_8 : decode cX10_steal 8 = .ok (.aload_n 0, 1) := by decide +kernel
theorem dX10_steal_9 : decode cX10_steal 9 = .ok (.iload_n 2, 1) := by decide +kernel
theorem dX10_steal_10 : decode cX10_steal 10 = .ok (.invokevirtual 142, 3) := by decide +kernel
theorem dX10_steal_13 : decode cX10_steal 13 = .ok (.ifCond .eq 14, 3) := by decide +kernel
theorem dX10_steal_16 : decode cX10_steal 16 = .ok (.iload_n 3, 1) := by decide +kernel
theorem dX10_steal_17 : decode cX10_steal 17 = .ok (.iconst 1, 1) := by decide +kernel
theorem dX10_steal_18 : decode cX10_steal 18 = .ok (.if_icmp .lt 9, 3) := by decide +kernel
theorem dX10_steal_21 : decode cX10_steal 21 = .ok (.iload_n 3, 1) := by decide +kernel
theorem dX10_steal_22 : decode cX10_steal 22 = .ok (.bipush 60, 2) := by decide +kernel
theorem dX10_steal_24 : decode cX10_steal 24 = .ok (.if_icmp .le 6, 3) := by decide +kernel
theorem dX10_steal_27 : decode cX10_steal 27 = .ok (.bipush (-2), 2) := by decide +kernel
theorem dX10_steal_29 : decode cX10_steal 29 = .ok (.ireturn, 1) := by decide +kernel
theorem dX10_steal_30 : decode cX10_steal 30 = .ok (.aload_n 0, 1) := by decide +kernel
theorem dX10_steal_31 : decode cX10_steal 31 = .ok (.invokevirtual 186, 3) := by decide +kernel
theorem dX10_steal_34 : decode cX10_steal 34 = .ok (.ifCond .ne 26, 3) := by decide +kernel
theorem dX10_steal_37 : decode cX10_steal 37 = .ok (.iload_n 3, 1) := by decide +kernel
theorem dX10_steal_38 : decode cX10_steal 38 = .ok (.aload_n 0, 1) := by decide +kernel
theorem dX10_steal_39 : decode cX10_steal 39 = .ok (.getfield 38, 3) := by decide +kernel
theorem dX10_steal_42 : decode cX10_steal 42 = .ok (.getfield 189, 3) := by decide +kernel
theorem dX10_steal_45 : decode cX10_steal 45 = .ok (.if_icmp .le 15, 3) := by decide +kernel
theorem dX10_steal_48 : decode cX10_steal 48 = .ok (.aload_n 0, 1) := by decide +kernel
theorem dX10_steal_49 : decode cX10_steal 49 = .ok (.getfield 38, 3) := by decide +kernel
theorem dX10_steal_52 : decode cX10_steal 52 = .ok (.iload_n 1, 1) := by decide +kernel
theorem dX10_steal_53 : decode cX10_steal 53 = .ok (.iload_n 2, 1) := by decide +kernel
theorem dX10_steal_54 : decode cX10_steal 54 = .ok (.invokevirtual 192, 3) := by decide +kernel
theorem dX10_steal_57 : decode cX10_steal 57 = .ok (.ifCond .ne 6, 3) := by decide +kernel
theorem dX10_steal_60 : decode cX10_steal 60 = .ok (.bipush (-5), 2) := by decide +kernel
theorem dX10_steal_62 : decode cX10_steal 62 = .ok (.ireturn, 1) := by decide +kernel
theorem dX10_steal_63 : decode cX10_steal 63 = .ok (.aload_n 0, 1) := by decide +kernel
theorem dX10_steal_64 : decode cX10_steal 64 = .ok (.iconst 0, 1) := by decide +kernel
theorem dX10_steal_65 : decode cX10_steal 65 = .ok (.iload_n 1, 1) := by decide +kernel
theorem dX10_steal_66 : decode cX10_steal 66 = .ok (.iload_n 2, 1) := by decide +kernel
theorem dX10_steal_67 : decode cX10_steal 67 = .ok (.iload_n 3, 1) := by decide +kernel
theorem dX10_steal_68 : decode cX10_steal 68 = .ok (.invokevirtual 196, 3) := by decide +kernel
theorem dX10_steal_71 : decode cX10_steal 71 = .ok (.ireturn, 1) := by decide +kernel
theorem dX10_strike_0 : decode cX10_strike 0 = .ok (.aload_n 0, 1) := by decide +kernel
theorem dX10_strike_1 : decode cX10_strike 1 = .ok (.iload_n 1, 1) := by decide +kernel
theorem dX10_strike_2 : decode cX10_strike 2 = .ok (.invokevirtual 158, 3) := by decide +kernel
theorem dX10_strike_5 : decode cX10_strike 5 = .ok (.ifCond .ne 6, 3) := by decide +kernel
theorem dX10_strike_8 : decode cX10_strike 8 = .ok (.bipush (-2), 2) := by decide +kernel
theorem dX10_strike_10 : decode cX10_strike 10 = .ok (.ireturn, 1) := by decide +kernel
theorem dX10_strike_11 : decode cX10_strike 11 = .ok (.aload_n 0, 1) := by decide +kernel
theorem dX10_strike_12 : decode cX10_strike 12 = .ok (.invokevirtual 186, 3) := by decide +kernel
theorem dX10_strike_15 : decode cX10_strike 15 = .ok (.ifCond .ne 14, 3) := by decide +kernel
theorem dX10_strike_18 : decode cX10_strike 18 = .ok (.aload_n 0, 1) := by decide +kernel
theorem dX10_strike_19 : decode cX10_strike 19 = .ok (.getfield 38, 3) := by decide +kernel
theorem dX10_strike_22 : decode cX10_strike 22 = .ok (.iload_n 1, 1) := by decide +kernel
theorem dX10_strike_23 : decode cX10_strike 23 = .ok (.invokevirtual 176, 3) := by decide +kernel
theorem dX10_strike_26 : decode cX10_strike 26 = .ok (.ifCond .ne 6, 3) := by decide +kernel
theorem dX10_strike_29 : decode cX10_strike 29 = .ok (.bipush (-5), 2) := by decide +kernel
theorem dX10_strike_31 : decode cX10_strike 31 = .ok (.ireturn, 1) := by decide +kernel
theorem dX10_strike_32 : decode cX10_strike 32 = .ok (.aload_n 0, 1) := by decide +kernel
theorem dX10_strike_33 : decode cX10_strike 33 = .ok (.iconst 3, 1) := by decide +kernel
theorem dX10_strike_34 : decode cX10_strike 34 = .ok (.iload_n 1, 1) := by decide +kernel
theorem dX10_strike_35 : decode cX10_strike 35 = .ok (.iconst 0, 1) := by decide +kernel
theorem dX10_strike_36 : decode cX10_strike 36 = .ok (.iconst 0, 1) := by decide +kernel
theorem dX10_strike_37 : decode cX10_strike 37 = .ok (.invokevirtual 196, 3) := by decide +kernel
theorem dX10_strike_40 : decode cX10_strike 40 = .ok (.ireturn, 1) := by decide +kernel
theorem dX10_strikes_0 : decode cX10_strikes 0 = .ok (.aload_n 0, 1) := by decide +kernel
theorem dX10_strikes_1 : decode cX10_strikes 1 = .ok (.invokevirtual 203, 3) := by decide +kernel
theorem dX10_strikes_4 : decode cX10_strikes 4 = .ok (.ifCond .eq 20, 3) := by decide +kernel
theorem dX10_strikes_7 : decode cX10_strikes 7 = .ok (.aload_n 0, 1) := by decide +kernel
theorem dX10_strikes_8 : decode cX10_strikes 8 = .ok (.getfield 48, 3) := by decide +kernel
theorem dX10_strikes_11 : decode cX10_strikes 11 = .ok (.aload_n 0, 1) := by decide +kernel
theorem dX10_strikes_12 : decode cX10_strikes 12 = .ok (.getfield 38, 3) := by decide +kernel
theorem dX10_strikes_15 : decode cX10_strikes 15 = .ok (.invokevirtual 238, 3) := by decide +kernel
theorem dX10_strikes_18 : decode cX10_strikes 18 = .ok (.invokestatic 241, 3) := by decide +kernel
theorem dX10_strikes_21 : decode cX10_strikes 21 = .ok (.goto 5, 3) := by decide +kernel
theorem dX10_strikes_24 : decode cX10_strikes 24 = .ok (.bipush (-2), 2) := by decide +kernel
theorem dX10_strikes_26 : decode cX10_strikes 26 = .ok (.ireturn, 1) := by decide +kernel
theorem dX10_struck_0 : decode cX10_struck 0 = .ok (.aload_n 0, 1) := by decide +kernel
theorem dX10_struck_1 : decode cX10_struck 1 = .ok (.invokevirtual 203, 3) := by decide +kernel
theorem dX10_struck_4 : decode cX10_struck 4 = .ok (.ifCond .eq 17, 3) := by decide +kernel
theorem dX10_struck_7 : decode cX10_struck 7 = .ok (.aload_n 0, 1) := by decide +kernel
theorem dX10_struck_8 : decode cX10_struck 8 = .ok (.getfield 48, 3) := by decide +kernel
theorem dX10_struck_11 : decode cX10_struck 11 = .ok (.aload_n 0, 1) := by decide +kernel
theorem dX10_struck_12 : decode cX10_struck 12 = .ok (.getfield 38, 3) := by decide +kernel
theorem dX10_struck_15 : decode cX10_struck 15 = .ok (.invokevirtual 238, 3) := by decide +kernel
theorem dX10_struck_18 : decode cX10_struck 18 = .ok (.goto 5, 3) := by decide +kernel
theorem dX10_struck_21 : decode cX10_struck 21 = .ok (.bipush (-2), 2) := by decide +kernel
theorem dX10_struck_23 : decode cX10_struck 23 = .ok (.ireturn, 1) := by decide +kernel
theorem dX10_thing_0 : decode cX10_thing 0 = .ok (.aload_n 0, 1) := by decide +kernel
theorem dX10_thing_1 : decode cX10_thing 1 = .ok (.iload_n 1, 1) := by decide +kernel
theorem dX10_thing_2 : decode cX10_thing 2 = .ok (.invokevirtual 142, 3) := by decide +kernel
theorem dX10_thing_5 : decode cX10_thing 5 = .ok (.ifCond .ne 6, 3) := by decide +kernel
theorem dX10_thing_8 : decode cX10_thing 8 = .ok (.bipush (-2), 2) := by decide +kernel
theorem dX10_thing_10 : decode cX10_thing 10 = .ok (.ireturn, 1) := by decide +kernel
theorem dX10_thing_11 : decode cX10_thing 11 = .ok (.iload_n 2, 1) := by decide +kernel
theorem dX10_thing_12 : decode cX10_thing 12 = .ok (.tableswitch 58 0 2 #[28, 38, 48], 28) := by decide +kernel
theorem dX10_thing_40 : decode cX10_thing 40 = .ok (.aload_n 0, 1) := by decide +kernel
theorem dX10_thing_41 : decode cX10_thing 41 = .ok (.getfield 19, 3) := by decide +kernel
theorem dX10_thing_44 : decode cX10_thing 44 = .ok (.getfield 145, 3) := by decide +kernel
theorem dX10_thing_47 : decode cX10_thing 47 = .ok (.iload_n 1, 1) := by decide +kernel
theorem dX10_thing_48 : decode cX10_thing 48 = .ok (.iaload, 1) := by decide +kernel
theorem dX10_thing_49 : decode cX10_thing 49 = .ok (.ireturn, 1) := by decide +kernel
theorem dX10_thing_50 : decode cX10_thing 50 = .ok (.aload_n 0, 1) := by decide +kernel
theorem dX10_thing_51 : decode cX10_thing 51 = .ok (.getfield 38, 3) := by decide +kernel
theorem dX10_thing_54 : decode cX10_thing 54 = .ok (.getfield 148, 3) := by decide +kernel
theorem dX10_thing_57 : decode cX10_thing 57 = .ok (.iload_n 1, 1) := by decide +kernel
theorem dX10_thing_58 : decode cX10_thing 58 = .ok (.iaload, 1) := by decide +kernel
theorem dX10_thing_59 : decode cX10_thing 59 = .ok (.ireturn, 1) := by decide +kernel
theorem dX10_thing_60 : decode cX10_thing 60 = .ok (.aload_n 0, 1) := by decide +kernel
theorem dX10_thing_61 : decode cX10_thing 61 = .ok (.getfield 19, 3) := by decide +kernel
theorem dX10_thing_64 : decode cX10_thing 64 = .ok (.getfield 151, 3) := by decide +kernel
theorem dX10_thing_67 : decode cX10_thing 67 = .ok (.iload_n 1, 1) := by decide +kernel
theorem dX10_thing_68 : decode cX10_thing 68 = .ok (.iaload, 1) := by decide +kernel
theorem dX10_thing_69 : decode cX10_thing 69 = .ok (.ireturn, 1) := by decide +kernel
theorem dX10_thing_70 : decode cX10_thing 70 = .ok (.bipush (-2), 2) := by decide +kernel
theorem dX10_thing_72 : decode cX10_thing 72 = .ok (.ireturn, 1) := by decide +kernel
theorem dX10_thingsOwnedBy_0 : decode cX10_thingsOwnedBy 0 = .ok (.iconst 0, 1) := by decide +kernel
theorem dX10_thingsOwnedBy_1 : decode cX10_thingsOwnedBy 1 = .ok (.istore_n 2, 1) := by decide +kernel
theorem dX10_thingsOwnedBy_2 : decode cX10_thingsOwnedBy 2 = .ok (.iconst 0, 1) := by decide +kernel
theorem dX10_thingsOwnedBy_3 : decode cX10_thingsOwnedBy 3 = .ok (.istore_n 3, 1) := by decide +kernel
theorem dX10_thingsOwnedBy_4 : decode cX10_thingsOwnedBy 4 = .ok (.iload_n 3, 1) := by decide +kernel
theorem dX10_thingsOwnedBy_5 : decode cX10_thingsOwnedBy 5 = .ok (.aload_n 0, 1) := by decide +kernel
theorem dX10_thingsOwnedBy_6 : decode cX10_thingsOwnedBy 6 = .ok (.getfield 19, 3) := by decide +kernel
theorem dX10_thingsOwnedBy_9 : decode cX10_thingsOwnedBy 9 = .ok (.getfield 296, 3) := by decide +kernel
theorem dX10_thingsOwnedBy_12 : decode cX10_thingsOwnedBy 12 = .ok (.if_icmp .ge 38, 3) := by decide +kernel
theorem dX10_thingsOwnedBy_15 : decode cX10_thingsOwnedBy 15 = .ok (.aload_n 0, 1) := by decide +kernel
theorem dX10_thingsOwnedBy_16 : decode cX10_thingsOwnedBy 16 = .ok (.getfield 48, 3) := by decide +kernel
theorem dX10_thingsOwnedBy_19 : decode cX10_thingsOwnedBy 19 = .ok (.aload_n 0, 1) := by decide +kernel
theorem dX10_thingsOwnedBy_20 : decode cX10_thingsOwnedBy 20 = .ok (.getfield 38, 3) := by decide +kernel
theorem dX10_thingsOwnedBy_23 : decode cX10_thingsOwnedBy 23 = .ok (.iload_n 3, 1) := by decide +kernel
theorem dX10_thingsOwnedBy_24 : decode cX10_thingsOwnedBy 24 = .ok (.invokevirtual 220, 3) := by decide +kernel
theorem dX10_thingsOwnedBy_27 : decode cX10_thingsOwnedBy 27 = .ok (.aload_n 0, 1) := by decide +kernel
theorem dX10_thingsOwnedBy_28 : decode cX10_thingsOwnedBy 28 = .ok (.getfield 48, 3) := by decide +kernel
theorem dX10_thingsOwnedBy_31 : decode cX10_thingsOwnedBy 31 = .ok (.invokevirtual 224, 3) := by decide +kernel
theorem dX10_thingsOwnedBy_34 : decode cX10_thingsOwnedBy 34 = .ok (.iload_n 1, 1) := by decide +kernel
theorem dX10_thingsOwnedBy_35 : decode cX10_thingsOwnedBy 35 = .ok (.if_icmp .ne 9, 3) := by decide +kernel
theorem dX10_thingsOwnedBy_38 : decode cX10_thingsOwnedBy 38 = .ok (.iload_n 2, 1) := by decide +kernel
theorem dX10_thingsOwnedBy_39 : decode cX10_thingsOwnedBy 39 = .ok (.iconst 1, 1) := by decide +kernel
theorem dX10_thingsOwnedBy_40 : decode cX10_thingsOwnedBy 40 = .ok (.iload_n 3, 1) := by decide +kernel
theorem dX10_thingsOwnedBy_41 : decode cX10_thingsOwnedBy 41 = .ok (.ishl, 1) := by decide +kernel
theorem dX10_thingsOwnedBy_42 : decode cX10_thingsOwnedBy 42 = .ok (.ior, 1) := by decide +kernel
theorem dX10_thingsOwnedBy_43 : decode cX10_thingsOwnedBy 43 = .ok (.istore_n 2, 1) := by decide +kernel
theorem dX10_thingsOwnedBy_44 : decode cX10_thingsOwnedBy 44 = .ok (.iinc 3 1, 3) := by decide +kernel
theorem dX10_thingsOwnedBy_47 : decode cX10_thingsOwnedBy 47 = .ok (.goto (-43), 3) := by decide +kernel
theorem dX10_thingsOwnedBy_50 : decode cX10_thingsOwnedBy 50 = .ok (.iload_n 2, 1) := by decide +kernel
theorem dX10_thingsOwnedBy_51 : decode cX10_thingsOwnedBy 51 = .ok (.ireturn, 1) := by decide +kernel
theorem dX10_trail_0 : decode cX10_trail 0 = .ok (.aload_n 0, 1) := by decide +kernel
theorem dX10_trail_1 : decode cX10_trail 1 = .ok (.iload_n 1, 1) := by decide +kernel
theorem dX10_trail_2 : decode cX10_trail 2 = .ok (.invokevirtual 142, 3) := by decide +kernel
theorem dX10_trail_5 : decode cX10_trail 5 = .ok (.ifCond .ne 6, 3) := by decide +kernel
theorem dX10_trail_8 : decode cX10_trail 8 = .ok (.bipush (-2), 2) := by decide +kernel
theorem dX10_trail_10 : decode cX10_trail 10 = .ok (.ireturn, 1) := by decide +kernel
theorem dX10_trail_11 : decode cX10_trail 11 = .ok (.iload_n 2, 1) := by decide +kernel
theorem dX10_trail_12 : decode cX10_trail 12 = .ok (.ifCond .lt 28, 3) := by decide +kernel
theorem dX10_trail_15 : decode cX10_trail 15 = .ok (.iload_n 2, 1) := by decide +kernel
theorem dX10_trail_16 : decode cX10_trail 16 = .ok (.aload_n 0, 1) := by decide +kernel
theorem dX10_trail_17 : decode cX10_trail 17 = .ok (.getfield 38, 3) := by decide +kernel
theorem dX10_trail_20 : decode cX10_trail 20 = .ok (.getfield 246, 3) := by decide +kernel
theorem dX10_trail_23 : decode cX10_trail 23 = .ok (.iload_n 1, 1) := by decide +kernel
theorem dX10_trail_24 : decode cX10_trail 24 = .ok (.iaload, 1) := by decide +kernel
theorem dX10_trail_25 : decode cX10_trail 25 = .ok (.if_icmp .gt 15, 3) := by decide +kernel
theorem dX10_trail_28 : decode cX10_trail 28 = .ok (.aload_n 0, 1) := by decide +kernel
theorem dX10_trail_29 : decode cX10_trail 29 = .ok (.getfield 38, 3) := by decide +kernel
theorem dX10_trail_32 : decode cX10_trail 32 = .ok (.iload_n 1, 1) := by decide +kernel
theorem dX10_trail_33 : decode cX10_trail 33 = .ok (.iload_n 2, 1) := by decide +kernel
theorem dX10_trail_34 : decode cX10_trail 34 = .ok (.invokevirtual 249, 3) := by decide +kernel
theorem dX10_trail_37 : decode cX10_trail 37 = .ok (.goto 4, 3) := by decide +kernel
theorem dX10_trail_40 : decode cX10_trail 40 = .ok (.iconst (-1), 1) := by decide +kernel
theorem dX10_trail_41 : decode cX10_trail 41 = .ok (.ireturn, 1) := by decide +kernel
theorem dX10_tryNights_0 : decode cX10_tryNights 0 = .ok (.aload_n 0, 1) := by decide +kernel
theorem dX10_tryNights_1 : decode cX10_tryNights 1 = .ok (.getfield 42, 3) := by decide +kernel
theorem dX10_tryNights_4 : decode cX10_tryNights 4 = .ok (.aload_n 0, 1) := by decide +kernel
theorem dX10_tryNights_5 : decode cX10_tryNights 5 = .ok (.getfield 38, 3) := by decide +kernel
theorem dX10_tryNights_8 : decode cX10_tryNights 8 = .ok (.invokevirtual 264, 3) := by decide +kernel
theorem dX10_tryNights_11 : decode cX10_tryNights 11 = .ok (.iconst 0, 1) := by decide +kernel
theorem dX10_tryNights_12 : decode cX10_tryNights 12 = .ok (.istore_n 2, 1) := by decide +kernel
theorem dX10_tryNights_13 : decode cX10_tryNights 13 = .ok (.iconst 0, 1) := by decide +kernel
theorem dX10_tryNights_14 : decode cX10_tryNights 14 = .ok (.istore_n 3, 1) := by decide +kernel
theorem dX10_tryNights_15 : decode cX10_tryNights 15 = .ok (.iload_n 3, 1) := by decide +kernel
theorem dX10_tryNights_16 : decode cX10_tryNights 16 = .ok (.iload_n 1, 1) := by decide +kernel
theorem dX10_tryNights_17 : decode cX10_tryNights 17 = .ok (.if_icmp .ge 19, 3) := by decide +kernel
theorem dX10_tryNights_20 : decode cX10_tryNights 20 = .ok (.iload_n 2, 1) := by decide +kernel
theorem dX10_tryNights_21 : decode cX10_tryNights 21 = .ok (.aload_n 0, 1) := by decide +kernel
theorem dX10_tryNights_22 : decode cX10_tryNights 22 = .ok (.getfield 42, 3) := by decide +kernel
theorem dX10_tryNights_25 : decode cX10_tryNights 25 = .ok (.invokevirtual 278, 3) := by decide +kernel
theorem dX10_tryNights_28 : decode cX10_tryNights 28 = .ok (.ior, 1) := by decide +kernel
theorem dX10_tryNights_29 : decode cX10_tryNights 29 = .ok (.istore_n 2, 1) := by decide +kernel
theorem dX10_tryNights_30 : decode cX10_tryNights 30 = .ok (.iinc 3 1, 3) := by decide +kernel
theorem dX10_tryNights_33 : decode cX10_tryNights 33 = .ok (.goto (-18), 3) := by decide +kernel
theorem dX10_tryNights_36 : decode cX10_tryNights 36 = .ok (.iload_n 2, 1) := by decide +kernel
theorem dX10_tryNights_37 : decode cX10_tryNights 37 = .ok (.ireturn, 1) := by decide +kernel
theorem dX10_twice_0 : decode cX10_twice 0 = .ok (.aload_n 0, 1) := by decide +kernel
theorem dX10_twice_1 : decode cX10_twice 1 = .ok (.invokevirtual 203, 3) := by decide +kernel
theorem dX10_twice_4 : decode cX10_twice 4 = .ok (.ifCond .eq 17, 3) := by decide +kernel
theorem dX10_twice_7 : decode cX10_twice 7 = .ok (.aload_n 0, 1) := by decide +kernel
theorem dX10_twice_8 : decode cX10_twice 8 = .ok (.getfield 48, 3) := by decide +kernel
theorem dX10_twice_11 : decode cX10_twice 11 = .ok (.aload_n 0, 1) := by decide +kernel
theorem dX10_twice_12 : decode cX10_twice 12 = .ok (.getfield 38, 3) := by decide +kernel
theorem dX10_twice_15 : decode cX10_twice 15 = .ok (.invokevirtual 234, 3) := by decide +kernel
theorem dX10_twice_18 : decode cX10_twice 18 = .ok (.goto 5, 3) := by decide +kernel
theorem dX10_twice_21 : decode cX10_twice 21 = .ok (.bipush (-2), 2) := by decide +kernel
theorem dX10_twice_23 : decode cX10_twice 23 = .ok (.ireturn, 1) := by decide +kernel
theorem dX10_undo_0 : decode cX10_undo 0 = .ok (.aload_n 0, 1) := by decide +kernel
theorem dX10_undo_1 : decode cX10_undo 1 = .ok (.invokevirtual 203, 3) := by decide +kernel
theorem dX10_undo_4 : decode cX10_undo 4 = .ok (.ifCond .ne 6, 3) := by decide +kernel
theorem dX10_undo_7 : decode cX10_undo 7 = .ok (.bipush (-2), 2) := by decide +kernel
theorem dX10_undo_9 : decode cX10_undo 9 = .ok (.ireturn, 1) := by decide +kernel
theorem dX10_undo_10 : decode cX10_undo 10 = .ok (.aload_n 0, 1) := by decide +kernel
theorem dX10_undo_11 : decode cX10_undo 11 = .ok (.getfield 29, 3) := by decide +kernel
theorem dX10_undo_14 : decode cX10_undo 14 = .ok (.getfield 106, 3) := by decide +kernel
theorem dX10_undo_17 : decode cX10_undo 17 = .ok (.ifCond .ne 6, 3) := by decide +kernel
theorem dX10_undo_20 : decode cX10_undo 20 = .ok (.bipush (-5), 2) := by decide +kernel
theorem dX10_undo_22 : decode cX10_undo 22 = .ok (.ireturn, 1) := by decide +kernel
theorem dX10_undo_23 : decode cX10_undo 23 = .ok (.aload_n 0, 1) := by decide +kernel
theorem dX10_undo_24 : decode cX10_undo 24 = .ok (.getfield 29, 3) := by decide +kernel
theorem dX10_undo_27 : decode cX10_undo 27 = .ok (.dup, 1) := by decide +kernel
theorem dX10_undo_28 : decode cX10_undo 28 = .ok (.getfield 106, 3) := by decide +kernel
theorem dX10_undo_31 : decode cX10_undo 31 = .ok (.iconst 1, 1) := by decide +kernel
theorem dX10_undo_32 : decode cX10_undo 32 = .ok (.isub, 1) := by decide +kernel
theorem dX10_undo_33 : decode cX10_undo 33 = .ok (.putfield 106, 3) := by decide +kernel
theorem dX10_undo_36 : decode cX10_undo 36 = .ok (.aload_n 0, 1) := by decide +kernel
theorem dX10_undo_37 : decode cX10_undo 37 = .ok (.getfield 29, 3) := by decide +kernel
theorem dX10_undo_40 : decode cX10_undo 40 = .ok (.aload_n 0, 1) := by decide +kernel
theorem dX10_undo_41 : decode cX10_undo 41 = .ok (.getfield 38, 3) := by decide +kernel
theorem dX10_undo_44 : decode cX10_undo 44 = .ok (.invokevirtual 206, 3) := by decide +kernel
theorem dX10_undo_47 : decode cX10_undo 47 = .ok (.aload_n 0, 1) := by decide +kernel
theorem dX10_undo_48 : decode cX10_undo 48 = .ok (.getfield 29, 3) := by decide +kernel
theorem dX10_undo_51 : decode cX10_undo 51 = .ok (.getfield 106, 3) := by decide +kernel
theorem dX10_undo_54 : decode cX10_undo 54 = .ok (.ireturn, 1) := by decide +kernel
theorem dX10_value_0 : decode cX10_value 0 = .ok (.aload_n 0, 1) := by decide +kernel
theorem dX10_value_1 : decode cX10_value 1 = .ok (.iload_n 1, 1) := by decide +kernel
theorem dX10_value_2 : decode cX10_value 2 = .ok (.invokevirtual 121, 3) := by decide +kernel
theorem dX10_value_5 : decode cX10_value 5 = .ok (.ifCond .eq 23, 3) := by decide +kernel
theorem dX10_value_8 : decode cX10_value 8 = .ok (.aload_n 0, 1) := by decide +kernel
theorem dX10_value_9 : decode cX10_value 9 = .ok (.iload_n 2, 1) := by decide +kernel
theorem dX10_value_10 : decode cX10_value 10 = .ok (.invokevirtual 142, 3) := by decide +kernel
theorem dX10_value_13 : decode cX10_value 13 = .ok (.ifCond .eq 15, 3) := by decide +kernel
theorem dX10_value_16 : decode cX10_value 16 = .ok (.aload_n 0, 1) := by decide +kernel
theorem dX10_value_17 : decode cX10_value 17 = .ok (.getfield 19, 3) := by decide +kernel
theorem dX10_value_20 : decode cX10_value 20 = .ok (.iload_n 1, 1) := by decide +kernel
theorem dX10_value_21 : decode cX10_value 21 = .ok (.iload_n 2, 1) := by decide +kernel
theorem dX10_value_22 : decode cX10_value 22 = .ok (.invokevirtual 154, 3) := by decide +kernel
theorem dX10_value_25 : decode cX10_value 25 = .ok (.goto 5, 3) := by decide +kernel
theorem dX10_value_28 : decode cX10_value 28 = .ok (.bipush (-2), 2) := by decide +kernel
theorem dX10_value_30 : decode cX10_value 30 = .ok (.ireturn, 1) := by decide +kernel
theorem dX10_want_0 : decode cX10_want 0 = .ok (.aload_n 0, 1) := by decide +kernel
theorem dX10_want_1 : decode cX10_want 1 = .ok (.iload_n 1, 1) := by decide +kernel
theorem dX10_want_2 : decode cX10_want 2 = .ok (.invokevirtual 121, 3) := by decide +kernel
theorem dX10_want_5 : decode cX10_want 5 = .ok (.ifCond .eq 22, 3) := by decide +kernel
theorem dX10_want_8 : decode cX10_want 8 = .ok (.aload_n 0, 1) := by decide +kernel
theorem dX10_want_9 : decode cX10_want 9 = .ok (.iload_n 2, 1) := by decide +kernel
theorem dX10_want_10 : decode cX10_want 10 = .ok (.invokevirtual 142, 3) := by decide +kernel
theorem dX10_want_13 : decode cX10_want 13 = .ok (.ifCond .eq 14, 3) := by decide +kernel
theorem dX10_want_16 : decode cX10_want 16 = .ok (.iload_n 3, 1) := by decide +kernel
theorem dX10_want_17 : decode cX10_want 17 = .ok (.ifCond .lt 10, 3) := by decide +kernel
theorem dX10_want_20 : decode cX10_want 20 = .ok (.iload_n 3, 1) := by decide +kernel
theorem dX10_want_21 : decode cX10_want 21 = .ok (.sipush 500, 3) := by decide +kernel
theorem dX10_want_24 : decode cX10_want 24 = .ok (.if_icmp .le 6, 3) := by decide +kernel
theorem dX10_want_27 : decode cX10_want 27 = .ok (.bipush (-2), 2) := by decide +kernel
theorem dX10_want_29 : decode cX10_want 29 = .ok (.ireturn, 1) := by decide +kernel
theorem dX10_want_30 : decode cX10_want 30 = .ok (.aload_n 0, 1) := by decide +kernel
theorem dX10_want_31 : decode cX10_want 31 = .ok (.getfield 29, 3) := by decide +kernel
theorem dX10_want_34 : decode cX10_want 34 = .ok (.getfield 106, 3) := by decide +kernel
theorem dX10_want_37 : decode cX10_want 37 = .ok (.ifCond .le 6, 3) := by decide +kernel
theorem dX10_want_40 : decode cX10_want 40 = .ok (.bipush (-5), 2) := by decide +kernel
theorem dX10_want_42 : decode cX10_want 42 = .ok (.ireturn, 1) := by decide +kernel
theorem dX10_want_43 : decode cX10_want 43 = .ok (.aload_n 0, 1) := by decide +kernel
theorem dX10_want_44 : decode cX10_want 44 = .ok (.getfield 19, 3) := by decide +kernel
theorem dX10_want_47 : decode cX10_want 47 = .ok (.iload_n 1, 1) := by decide +kernel
theorem dX10_want_48 : decode cX10_want 48 = .ok (.iload_n 2, 1) := by decide +kernel
theorem dX10_want_49 : decode cX10_want 49 = .ok (.invokevirtual 293, 3) := by decide +kernel
theorem dX10_want_52 : decode cX10_want 52 = .ok (.istore 4, 2) := by decide +kernel
theorem dX10_want_54 : decode cX10_want 54 = .ok (.aload_n 0, 1) := by decide +kernel
theorem dX10_want_55 : decode cX10_want 55 = .ok (.getfield 19, 3) := by decide +kernel
theorem dX10_want_58 : decode cX10_want 58 = .ok (.iload_n 1, 1) := by decide +kernel
theorem dX10_want_59 : decode cX10_want 59 = .ok (.iload_n 2, 1) := by decide +kernel
theorem dX10_want_60 : decode cX10_want 60 = .ok (.iload_n 3, 1) := by decide +kernel
theorem dX10_want_61 : decode cX10_want 61 = .ok (.invokevirtual 342, 3) := by decide +kernel
theorem dX10_want_64 : decode cX10_want 64 = .ok (.iload 4, 2) := by decide +kernel
theorem dX10_want_66 : decode cX10_want 66 = .ok (.ireturn, 1) := by decide +kernel
theorem dX10_went_0 : decode cX10_went 0 = .ok (.aload_n 0, 1) := by decide +kernel
theorem dX10_went_1 : decode cX10_went 1 = .ok (.iload_n 1, 1) := by decide +kernel
theorem dX10_went_2 : decode cX10_went 2 = .ok (.invokevirtual 142, 3) := by decide +kernel
theorem dX10_went_5 : decode cX10_went 5 = .ok (.ifCond .eq 15, 3) := by decide +kernel
theorem dX10_went_8 : decode cX10_went 8 = .ok (.aload_n 0, 1) := by decide +kernel
theorem dX10_went_9 : decode cX10_went 9 = .ok (.getfield 38, 3) := by decide +kernel
theorem dX10_went_12 : decode cX10_went 12 = .ok (.getfield 246, 3) := by decide +kernel
theorem dX10_went_15 : decode cX10_went 15 = .ok (.iload_n 1, 1) := by decide +kernel
theorem dX10_went_16 : decode cX10_went 16 = .ok (.iaload, 1) := by decide +kernel
theorem dX10_went_17 : decode cX10_went 17 = .ok (.goto 5, 3) := by decide +kernel
theorem dX10_went_20 : decode cX10_went 20 = .ok (.bipush (-2), 2) := by decide +kernel
theorem dX10_went_22 : decode cX10_went 22 = .ok (.ireturn, 1) := by decide +kernel
theorem dX10_wishOf_0 : decode cX10_wishOf 0 = .ok (.aload_n 0, 1) := by decide +kernel
theorem dX10_wishOf_1 : decode cX10_wishOf 1 = .ok (.getfield 38, 3) := by decide +kernel
theorem dX10_wishOf_4 : decode cX10_wishOf 4 = .ok (.iload_n 1, 1) := by decide +kernel
theorem dX10_wishOf_5 : decode cX10_wishOf 5 = .ok (.invokevirtual 252, 3) := by decide +kernel
theorem dX10_wishOf_8 : decode cX10_wishOf 8 = .ok (.istore_n 3, 1) := by decide +kernel
theorem dX10_wishOf_9 : decode cX10_wishOf 9 = .ok (.iconst (-1), 1) := by decide +kernel
theorem dX10_wishOf_10 : decode cX10_wishOf 10 = .ok (.istore 4, 2) := by decide +kernel
theorem dX10_wishOf_12 : decode cX10_wishOf 12 = .ok (.iconst 0, 1) := by decide +kernel
theorem dX10_wishOf_13 : decode cX10_wishOf 13 = .ok (.istore 5, 2) := by decide +kernel
theorem dX10_wishOf_15 : decode cX10_wishOf 15 = .ok (.iload 5, 2) := by decide +kernel
theorem dX10_wishOf_17 : decode cX10_wishOf 17 = .ok (.iload_n 2, 1) := by decide +kernel
theorem dX10_wishOf_18 : decode cX10_wishOf 18 = .ok (.if_icmp .gt 40, 3) := by decide +kernel
theorem dX10_wishOf_21 : decode cX10_wishOf 21 = .ok (.iload 5, 2) := by decide +kernel
theorem dX10_wishOf_23 : decode cX10_wishOf 23 = .ok (.iconst 4, 1) := by decide +kernel
theorem dX10_wishOf_24 : decode cX10_wishOf 24 = .ok (.if_icmp .ge 34, 3) := by decide +kernel
theorem dX10_wishOf_27 : decode cX10_wishOf 27 = .ok (.aload_n 0, 1) := by decide +kernel
theorem dX10_wishOf_28 : decode cX10_wishOf 28 = .ok (.iload_n 1, 1) := by decide +kernel
theorem dX10_wishOf_29 : decode cX10_wishOf 29 = .ok (.iload_n 3, 1) := by decide +kernel
theorem dX10_wishOf_30 : decode cX10_wishOf 30 = .ok (.invokevirtual 404, 3) := by decide +kernel
theorem dX10_wishOf_33 : decode cX10_wishOf 33 = .ok (.istore 4, 2) := by decide +kernel
theorem dX10_wishOf_35 : decode cX10_wishOf 35 = .ok (.iload 4, 2) := by decide +kernel
theorem dX10_wishOf_37 : decode cX10_wishOf 37 = .ok (.iconst (-1), 1) := by decide +kernel
theorem dX10_wishOf_38 : decode cX10_wishOf 38 = .ok (.if_icmp .ne 5, 3) := by decide +kernel
theorem dX10_wishOf_41 : decode cX10_wishOf 41 = .ok (.iconst (-1), 1) := by decide +kernel
theorem dX10_wishOf_42 : decode cX10_wishOf 42 = .ok (.ireturn, 1) := by decide +kernel
theorem dX10_wishOf_43 : decode cX10_wishOf 43 = .ok (.iload_n 3, 1) := by decide +kernel
theorem dX10_wishOf_44 : decode cX10_wishOf 44 = .ok (.iconst 1, 1) := by decide +kernel
theorem dX10_wishOf_45 : decode cX10_wishOf 45 = .ok (.iload 4, 2) := by decide +kernel
theorem dX10_wishOf_47 : decode cX10_wishOf 47 = .ok (.ishl, 1) := by decide +kernel
theorem dX10_wishOf_48 : decode cX10_wishOf 48 = .ok (.iconst (-1), 1) := by decide +kernel
theorem dX10_wishOf_49 : decode cX10_wishOf 49 = .ok (.ixor, 1) := by decide +kernel
theorem dX10_wishOf_50 : decode cX10_wishOf 50 = .ok (.iand, 1) := by decide +kernel
theorem dX10_wishOf_51 : decode cX10_wishOf 51 = .ok (.istore_n 3, 1) := by decide +kernel
theorem dX10_wishOf_52 : decode cX10_wishOf 52 = .ok (.iinc 5 1, 3) := by decide +kernel
theorem dX10_wishOf_55 : decode cX10_wishOf 55 = .ok (.goto (-40), 3) := by decide +kernel
theorem dX10_wishOf_58 : decode cX10_wishOf 58 = .ok (.iload 4, 2) := by decide +kernel
theorem dX10_wishOf_60 : decode cX10_wishOf 60 = .ok (.ireturn, 1) := by decide +kernel
theorem dX10_write_0 : decode cX10_write 0 = .ok (.iload_n 1, 1) := by decide +kernel
theorem dX10_write_1 : decode cX10_write 1 = .ok (.invokestatic 367, 3) := by decide +kernel
theorem dX10_write_4 : decode cX10_write 4 = .ok (.ifCond .ne 6, 3) := by decide +kernel
theorem dX10_write_7 : decode cX10_write 7 = .ok (.bipush (-2), 2) := by decide +kernel
theorem dX10_write_9 : decode cX10_write 9 = .ok (.ireturn, 1) := by decide +kernel
theorem dX10_write_10 : decode cX10_write 10 = .ok (.aload_n 0, 1) := by decide +kernel
theorem dX10_write_11 : decode cX10_write 11 = .ok (.getfield 81, 3) := by decide +kernel
theorem dX10_write_14 : decode cX10_write 14 = .ok (.iload_n 1, 1) := by decide +kernel
theorem dX10_write_15 : decode cX10_write 15 = .ok (.aaload, 1) := by decide +kernel
theorem dX10_write_16 : decode cX10_write 16 = .ok (.astore 5, 2) := by decide +kernel
theorem dX10_write_18 : decode cX10_write 18 = .ok (.aload 5, 2) := by decide +kernel
theorem dX10_write_20 : decode cX10_write 20 = .ok (.invokevirtual 373, 3) := by decide +kernel
theorem dX10_write_23 : decode cX10_write 23 = .ok (.ifCond .ne 6, 3) := by decide +kernel
theorem dX10_write_26 : decode cX10_write 26 = .ok (.bipush (-6), 2) := by decide +kernel
theorem dX10_write_28 : decode cX10_write 28 = .ok (.ireturn, 1) := by decide +kernel
theorem dX10_write_29 : decode cX10_write 29 = .ok (.iload_n 2, 1) := by decide +kernel
theorem dX10_write_30 : decode cX10_write 30 = .ok (.ifCond .lt 12, 3) := by decide +kernel
theorem dX10_write_33 : decode cX10_write 33 = .ok (.iload_n 2, 1) := by decide +kernel
theorem dX10_write_34 : decode cX10_write 34 = .ok (.aload 5, 2) := by decide +kernel
theorem dX10_write_36 : decode cX10_write 36 = .ok (.getfield 376, 3) := by decide +kernel
theorem dX10_write_39 : decode cX10_write 39 = .ok (.if_icmp .lt 6, 3) := by decide +kernel
theorem dX10_write_42 : decode cX10_write 42 = .ok (.bipush (-7), 2) := by decide +kernel
theorem dX10_write_44 : decode cX10_write 44 = .ok (.ireturn, 1) := by decide +kernel
theorem dX10_write_45 : decode cX10_write 45 = .ok (.aload 5, 2) := by decide +kernel
theorem dX10_write_47 : decode cX10_write 47 = .ok (.iload_n 2, 1) := by decide +kernel
theorem dX10_write_48 : decode cX10_write 48 = .ok (.lload_n 3, 1) := by decide +kernel
theorem dX10_write_49 : decode cX10_write 49 = .ok (.invokevirtual 377, 3) := by decide +kernel
theorem dX10_write_52 : decode cX10_write 52 = .ok (.iconst 0, 1) := by decide +kernel
theorem dX10_write_53 : decode cX10_write 53 = .ok (.ireturn, 1) := by decide +kernel
theorem dX10_wrong_0 : decode cX10_wrong 0 = .ok (.aload_n 0, 1) := by decide +kernel
theorem dX10_wrong_1 : decode cX10_wrong 1 = .ok (.iload_n 1, 1) := by decide +kernel
theorem dX10_wrong_2 : decode cX10_wrong 2 = .ok (.invokevirtual 321, 3) := by decide +kernel
theorem dX10_wrong_5 : decode cX10_wrong 5 = .ok (.istore_n 2, 1) := by decide +kernel
theorem dX10_wrong_6 : decode cX10_wrong 6 = .ok (.iload_n 2, 1) := by decide +kernel
theorem dX10_wrong_7 : decode cX10_wrong 7 = .ok (.ifCond .ne 13, 3) := by decide +kernel
theorem dX10_wrong_10 : decode cX10_wrong 10 = .ok (.aload_n 0, 1) := by decide +kernel
theorem dX10_wrong_11 : decode cX10_wrong 11 = .ok (.getfield 69, 3) := by decide +kernel
theorem dX10_wrong_14 : decode cX10_wrong 14 = .ok (.getfield 324, 3) := by decide +kernel
theorem dX10_wrong_17 : decode cX10_wrong 17 = .ok (.goto 4, 3) := by decide +kernel
theorem dX10_wrong_20 : decode cX10_wrong 20 = .ok (.iload_n 2, 1) := by decide +kernel
theorem dX10_wrong_21 : decode cX10_wrong 21 = .ok (.ireturn, 1) := by decide +kernel
theorem dX11_act0_0 : decode cX11_act0 0 = .ok (.iload_n 1, 1) := by decide +kernel
theorem dX11_act0_1 : decode cX11_act0 1 = .ok (.ldc 220, 2) := by decide +kernel
theorem dX11_act0_3 : decode cX11_act0 3 = .ok (.irem, 1) := by decide +kernel
theorem dX11_act0_4 : decode cX11_act0 4 = .ok (.sipush 10000, 3) := by decide +kernel
theorem dX11_act0_7 : decode cX11_act0 7 = .ok (.idiv, 1) := by decide +kernel
theorem dX11_act0_8 : decode cX11_act0 8 = .ok (.istore_n 2, 1) := by decide +kernel
theorem dX11_act0_9 : decode cX11_act0 9 = .ok (.iload_n 1, 1) := by decide +kernel
theorem dX11_act0_10 : decode cX11_act0 10 = .ok (.sipush 10000, 3) := by decide +kernel
theorem dX11_act0_13 : decode cX11_act0 13 = .ok (.irem, 1) := by decide +kernel
theorem dX11_act0_14 : decode cX11_act0 14 = .ok (.bipush 100, 2) := by decide +kernel
theorem dX11_act0_16 : decode cX11_act0 16 = .ok (.idiv, 1) := by decide +kernel
theorem dX11_act0_17 : decode cX11_act0 17 = .ok (.istore_n 3, 1) := by decide +kernel
theorem dX11_act0_18 : decode cX11_act0 18 = .ok (.iload_n 1, 1) := by decide +kernel
theorem dX11_act0_19 : decode cX11_act0 19 = .ok (.bipush 100, 2) := by decide +kernel
theorem dX11_act0_21 : decode cX11_act0 21 = .ok (.irem, 1) := by decide +kernel
theorem dX11_act0_22 : decode cX11_act0 22 = .ok (.istore 4, 2) := by decide +kernel
theorem dX11_act0_24 : decode cX11_act0 24 = .ok (.iload_n 1, 1) := by decide +kernel
theorem dX11_act0_25 : decode cX11_act0 25 = .ok (.ldc 220, 2) := by decide +kernel
theorem dX11_act0_27 : decode cX11_act0 27 = .ok (.idiv, 1) := by decide +kernel
theorem dX11_act0_28 : decode cX11_act0 28 = .ok (.tableswitch 74 0 4 #[36, 45, 52, 58, 66], 36) := by decide +kernel
theorem dX11_act0_64 : decode cX11_act0 64 = .ok (.aload_n 0, 1) := by decide +kernel
theorem dX11_act0_65 : decode cX11_act0 65 = .ok (.iload_n 2, 1) := by decide +kernel
theorem dX11_act0_66 : decode cX11_act0 66 = .ok (.iload_n 3, 1) := by decide +kernel
theorem dX11_act0_67 : decode cX11_act0 67 = .ok (.iload 4, 2) := by decide +kernel
theorem dX11_act0_69 : decode cX11_act0 69 = .ok (.invokevirtual 221, 3) := by decide +kernel
theorem dX11_act0_72 : decode cX11_act0 72 = .ok (.return_, 1) := by decide +kernel
theorem dX11_act0_73 : decode cX11_act0 73 = .ok (.aload_n 0, 1) := by decide +kernel
theorem dX11_act0_74 : decode cX11_act0 74 = .ok (.iload_n 2, 1) := by decide +kernel
theorem dX11_act0_75 : decode cX11_act0 75 = .ok (.iload_n 3, 1) := by decide +kernel
theorem dX11_act0_76 : decode cX11_act0 76 = .ok (.invokevirtual 225, 3) := by decide +kernel
theorem dX11_act0_79 : decode cX11_act0 79 = .ok (.return_, 1) := by decide +kernel
theorem dX11_act0_80 : decode cX11_act0 80 = .ok (.aload_n 0, 1) := by decide +kernel
theorem dX11_act0_81 : decode cX11_act0 81 = .ok (.iload_n 2, 1) := by decide +kernel
theorem dX11_act0_82 : decode cX11_act0 82 = .ok (.invokevirtual 229, 3) := by decide +kernel
theorem dX11_act0_85 : decode cX11_act0 85 = .ok (.return_, 1) := by decide +kernel
theorem dX11_act0_86 : decode cX11_act0 86 = .ok (.aload_n 0, 1) := by decide +kernel
theorem dX11_act0_87 : decode cX11_act0 87 = .ok (.getfield 55, 3) := by decide +kernel
theorem dX11_act0_90 : decode cX11_act0 90 = .ok (.iload_n 2, 1) := by decide +kernel
theorem dX11_act0_91 : decode cX11_act0 91 = .ok (.iconst 4, 1) := by decide +kernel
theorem dX11_act0_92 : decode cX11_act0 92 = .ok (.iastore, 1) := by decide +kernel
theorem dX11_act0_93 : decode cX11_act0 93 = .ok (.return_, 1) := by decide +kernel
theorem dX11_act0_94 : decode cX11_act0 94 = .ok (.aload_n 0, 1) := by decide +kernel
theorem dX11_act0_95 : decode cX11_act0 95 = .ok (.getfield 37, 3) := by decide +kernel
theorem dX11_act0_98 : decode cX11_act0 98 = .ok (.iload_n 2, 1) := by decide +kernel
theorem dX11_act0_99 : decode cX11_act0 99 = .ok (.iload_n 3, 1) := by decide +kernel
theorem dX11_act0_100 : decode cX11_act0 100 = .ok (.iastore, 1) := by decide +kernel
theorem dX11_act0_101 : decode cX11_act0 101 = .ok (.return_, 1) := by decide +kernel
theorem dX11_act0_102 : decode cX11_act0 102 = .ok (.aload_n 0, 1) := by decide +kernel
theorem dX11_act0_103 : decode cX11_act0 103 = .ok (.invokevirtual 232, 3) := by decide +kernel
theorem dX11_act0_106 : decode cX11_act0 106 = .ok (.pop, 1) := by decide +kernel
theorem dX11_act0_107 : decode cX11_act0 107 = .ok (.return_, 1) := by decide +kernel
theorem dX11_advance_0 : decode cX11_advance 0 = .ok (.aload_n 0, 1) := by decide +kernel
theorem dX11_advance_1 : decode cX11_advance 1 = .ok (.aload_n 0, 1) := by decide +kernel
theorem dX11_advance_2 : decode cX11_advance 2 = .ok (.getfield 112, 3) := by decide +kernel
theorem dX11_advance_5 : decode cX11_advance 5 = .ok (.invokevirtual 115, 3) := by decide +kernel
theorem dX11_advance_8 : decode cX11_advance 8 = .ok (.bipush 32, 2) := by decide +kernel
theorem dX11_advance_10 : decode cX11_advance 10 = .ok (.if_icmp .eq 16, 3) := by decide +kernel
theorem dX11_advance_13 : decode cX11_advance 13 = .ok (.aload_n 0, 1) := by decide +kernel
theorem dX11_advance_14 : decode cX11_advance 14 = .ok (.aload_n 0, 1) := by decide +kernel
theorem dX11_advance_15 : decode cX11_advance 15 = .ok (.getfield 112, 3) := by decide +kernel
theorem dX11_advance_18 : decode cX11_advance 18 = .ok (.invokevirtual 115, 3) := by decide +kernel
theorem dX11_advance_21 : decode cX11_advance 21 = .ok (.bipush 10, 2) := by decide +kernel
theorem dX11_advance_23 : decode cX11_advance 23 = .ok (.if_icmp .ne 16, 3) := by decide +kernel
theorem dX11_advance_26 : decode cX11_advance 26 = .ok (.aload_n 0, 1) := by decide +kernel
theorem dX11_advance_27 : decode cX11_advance 27 = .ok (.dup, 1) := by decide +kernel
theorem dX11_advance_28 : decode cX11_advance 28 = .ok (.getfield 112, 3) := by decide +kernel
theorem dX11_advance_31 : decode cX11_advance 31 = .ok (.iconst 1, 1) := by decide +kernel
theorem dX11_advance_32 : decode cX11_advance 32 = .ok (.iadd, 1) := by decide +kernel
theorem dX11_advance_33 : decode cX11_advance 33 = .ok (.putfield 112, 3) := by decide +kernel
theorem dX11_advance_36 : decode cX11_advance 36 = .ok (.goto (-36), 3) := by decide +kernel
theorem dX11_advance_39 : decode cX11_advance 39 = .ok (.aload_n 0, 1) := by decide +kernel
theorem dX11_advance_40 : decode cX11_advance 40 = .ok (.aload_n 0, 1) := by decide +kernel
theorem dX11_advance_41 : decode cX11_advance 41 = .ok (.getfield 112, 3) := by decide +kernel
theorem dX11_advance_44 : decode cX11_advance 44 = .ok (.putfield 118, 3) := by decide +kernel
theorem dX11_advance_47 : decode cX11_advance 47 = .ok (.aload_n 0, 1) := by decide +kernel
theorem dX11_advance_48 : decode cX11_advance 48 = .ok (.aload_n 0, 1) := by decide +kernel
theorem dX11_advance_49 : decode cX11_advance 49 = .ok (.getfield 112, 3) := by decide +kernel
theorem dX11_advance_52 : decode cX11_advance 52 = .ok (.invokevirtual 115, 3) := by decide +kernel
theorem dX11_advance_55 : decode cX11_advance 55 = .ok (.istore_n 1, 1) := by decide +kernel
theorem dX11_advance_56 : decode cX11_advance 56 = .ok (.iload_n 1, 1) := by decide +kernel
theorem dX11_advance_57 : decode cX11_advance 57 = .ok (.iconst (-1), 1) := by decide +kernel
theorem dX11_advance_58 : decode cX11_advance 58 = .ok (.if_icmp .ne 11, 3) := by decide +kernel
theorem dX11_advance_61 : decode cX11_advance 61 = .ok (.aload_n 0, 1) := by decide +kernel
theorem dX11_advance_62 : decode cX11_advance 62 = .ok (.iconst 0, 1) := by decide +kernel
theorem dX11_advance_63 : decode cX11_advance 63 = .ok (.putfield 121, 3) := by decide +kernel
theorem dX11_advance_66 : decode cX11_advance 66 = .ok (.goto 173, 3) := by decide +kernel
theorem dX11_advance_69 : decode cX11_advance 69 = .ok (.iload_n 1, 1) := by decide +kernel
theorem dX11_advance_70 : decode cX11_advance 70 = .ok (.i2l, 1) := by decide +kernel
theorem dX11_advance_71 : decode cX11_advance 71 = .ok (.ldc2_w 124, 3) := by decide +kernel
theorem dX11_advance_74 : decode cX11_advance 74 = .ok (.ldc2_w 126, 3) := by decide +kernel
theorem dX11_advance_77 : decode cX11_advance 77 = .ok (.invokestatic 94, 3) := by decide +kernel
theorem dX11_advance_80 : decode cX11_advance 80 = .ok (.ifCond .eq 45, 3) := by decide +kernel
theorem dX11_advance_83 : decode cX11_advance 83 = .ok (.aload_n 0, 1) := by decide +kernel
theorem dX11_advance_84 : decode cX11_advance 84 = .ok (.aload_n 0, 1) := by decide +kernel
theorem dX11_advance_85 : decode cX11_advance 85 = .ok (.getfield 112, 3) := by decide +kernel
theorem dX11_advance_88 : decode cX11_advance 88 = .ok (.invokevirtual 115, 3) := by decide +kernel
theorem dX11_advance_91 : decode cX11_advance 91 = .ok (.i2l, 1) := by decide +kernel
theorem dX11_advance_92 : decode cX11_advance 92 = .ok (.ldc2_w 124, 3) := by decide +kernel
theorem dX11_advance_95 : decode cX11_advance 95 = .ok (.ldc2_w 126, 3) := by decide +kernel
theorem dX11_advance_98 : decode cX11_advance 98 = .ok (.invokestatic 94, 3) := by decide +kernel
theorem dX11_advance_101 : decode cX11_advance 101 = .ok (.ifCond .eq 16, 3) := by decide +kernel
theorem dX11_advance_104 : decode cX11_advance 104 = .ok (.aload_n 0, 1) := by decide +kernel
theorem dX11_advance_105 : decode cX11_advance 105 = .ok (.dup, 1) := by decide +kernel
theorem dX11_advance_106 : decode cX11_advance 106 = .ok (.getfield 112, 3) := by decide +kernel
theorem dX11_advance_109 : decode cX11_advance 109 = .ok (.iconst 1, 1) := by decide +kernel
theorem dX11_advance_110 : decode cX11_advance 110 = .ok (.iadd, 1) := by decide +kernel
theorem dX11_advance_111 : decode cX11_advance 111 = .ok (.putfield 112, 3) := by decide +kernel
theorem dX11_advance_114 : decode cX11_advance 114 = .ok (.goto (-31), 3) := by decide +kernel
theorem dX11_advance_117 : decode cX11_advance 117 = .ok (.aload_n 0, 1) := by decide +kernel
theorem dX11_advance_118 : decode cX11_advance 118 = .ok (.iconst 1, 1) := by decide +kernel
theorem dX11_advance_119 : decode cX11_advance 119 = .ok (.putfield 121, 3) := by decide +kernel
theorem dX11_advance_122 : decode cX11_advance 122 = .ok (.goto 117, 3) := by decide +kernel
theorem dX11_advance_125 : decode cX11_advance 125 = .ok (.iload_n 1, 1) := by decide +kernel
theorem dX11_advance_126 : decode cX11_advance 126 = .ok (.i2l, 1) := by decide +kernel
theorem dX11_advance_127 : decode cX11_advance 127 = .ok (.ldc2_w 128, 3) := by decide +kernel
theorem dX11_advance_130 : decode cX11_advance 130 = .ok (.ldc2_w 130, 3) := by decide +kernel
theorem dX11_advance_133 : decode cX11_advance 133 = .ok (.invokestatic 94, 3) := by decide +kernel
theorem dX11_advance_136 : decode cX11_advance 136 = .ok (.ifCond .eq 78, 3) := by decide +kernel
theorem dX11_advance_139 : decode cX11_advance 139 = .ok (.aload_n 0, 1) := by decide +kernel
theorem dX11_advance_140 : decode cX11_advance 140 = .ok (.iconst 0, 1) := by decide +kernel
theorem dX11_advance_141 : decode cX11_advance 141 = .ok (.putfield 132, 3) := by decide +kernel
theorem dX11_advance_144 : decode cX11_advance 144 = .ok (.aload_n 0, 1) := by decide +kernel
theorem dX11_advance_145 : decode cX11_advance 145 = .ok (.aload_n 0, 1) := by decide +kernel
theorem dX11_advance_146 : decode cX11_advance 146 = .ok (.getfield 112, 3) := by decide +kernel
theorem dX11_advance_149 : decode cX11_advance 149 = .ok (.invokevirtual 115, 3) := by decide +kernel
theorem dX11_advance_152 : decode cX11_advance 152 = .ok (.i2l, 1) := by decide +kernel
theorem dX11_advance_153 : decode cX11_advance 153 = .ok (.ldc2_w 128, 3) := by decide +kernel
theorem dX11_advance_156 : decode cX11_advance 156 = .ok (.ldc2_w 130, 3) := by decide +kernel
theorem dX11_advance_159 : decode cX11_advance 159 = .ok (.invokestatic 94, 3) := by decide +kernel
theorem dX11_advance_162 : decode cX11_advance 162 = .ok (.ifCond .eq 44, 3) := by decide +kernel
theorem dX11_advance_165 : decode cX11_advance 165 = .ok (.aload_n 0, 1) := by decide +kernel
theorem dX11_advance_166 : decode cX11_advance 166 = .ok (.ldc 135, 2) := by decide +kernel
theorem dX11_advance_168 : decode cX11_advance 168 = .ok (.bipush 10, 2) := by decide +kernel
theorem dX11_advance_170 : decode cX11_advance 170 = .ok (.aload_n 0, 1) := by decide +kernel
theorem dX11_advance_171 : decode cX11_advance 171 = .ok (.getfield 132, 3) := by decide +kernel
theorem dX11_advance_174 : decode cX11_advance 174 = .ok (.imul, 1) := by decide +kernel
theorem dX11_advance_175 : decode cX11_advance 175 = .ok (.aload_n 0, 1) := by decide +kernel
theorem dX11_advance_176 : decode cX11_advance 176 = .ok (.aload_n 0, 1) := by decide +kernel
theorem dX11_advance_177 : decode cX11_advance 177 = .ok (.getfield 112, 3) := by decide +kernel
theorem dX11_advance_180 : decode cX11_advance 180 = .ok (.invokevirtual 115, 3) := by decide +kernel
theorem dX11_advance_183 : decode cX11_advance 183 = .ok (.iadd, 1) := by decide +kernel
theorem dX11_advance_184 : decode cX11_advance 184 = .ok (.bipush 48, 2) := by decide +kernel
theorem dX11_advance_186 : decode cX11_advance 186 = .ok (.isub, 1) := by decide +kernel
theorem dX11_advance_187 : decode cX11_advance 187 = .ok (.invokestatic 136, 3) := by decide +kernel
theorem dX11_advance_190 : decode cX11_advance 190 = .ok (.putfield 132, 3) := by decide +kernel
theorem dX11_advance_193 : decode cX11_advance 193 = .ok (.aload_n 0, 1) := by decide +kernel
theorem dX11_advance_194 : decode cX11_advance 194 = .ok (.dup, 1) := by decide +kernel
theorem dX11_advance_195 : decode cX11_advance 195 = .ok (.getfield 112, 3) := by decide +kernel
theorem dX11_advance_198 : decode cX11_advance 198 = .ok (.iconst 1, 1) := by decide +kernel
theorem dX11_advance_199 : decode cX11_advance 199 = .ok (.iadd, 1) := by decide +kernel
theorem dX11_advance_200 : decode cX11_advance 200 = .ok (.putfield 112, 3) := by decide +kernel
theorem dX11_advance_203 : decode cX11_advance 203 = .ok (.goto (-59), 3) := by decide +kernel
theorem dX11_advance_206 : decode cX11_advance 206 = .ok (.aload_n 0, 1) := by decide +kernel
theorem dX11_advance_207 : decode cX11_advance 207 = .ok (.iconst 2, 1) := by decide +kernel
theorem dX11_advance_208 : decode cX11_advance 208 = .ok (.putfield 121, 3) := by decide +kernel
theorem dX11_advance_211 : decode cX11_advance 211 = .ok (.goto 28, 3) := by decide +kernel
theorem dX11_advance_214 : decode cX11_advance 214 = .ok (.aload_n 0, 1) := by decide +kernel
theorem dX11_advance_215 : decode cX11_advance 215 = .ok (.iload_n 1, 1) := by decide +kernel
theorem dX11_advance_216 : decode cX11_advance 216 = .ok (.bipush 59, 2) := by decide +kernel
theorem dX11_advance_218 : decode cX11_advance 218 = .ok (.if_icmp .ne 7, 3) := by decide +kernel
theorem dX11_advance_221 : decode cX11_advance 221 = .ok (.iconst 3, 1) := by decide +kernel
theorem dX11_advance_222 : decode cX11_advance 222 = .ok (.goto 4, 3) := by decide +kernel
theorem dX11_advance_225 : decode cX11_advance 225 = .ok (.iconst 4, 1) := by decide +kernel
theorem dX11_advance_226 : decode cX11_advance 226 = .ok (.putfield 121, 3) := by decide +kernel
theorem dX11_advance_229 : decode cX11_advance 229 = .ok (.aload_n 0, 1) := by decide +kernel
theorem dX11_advance_230 : decode cX11_advance 230 = .ok (.dup, 1) := by decide +kernel
theorem dX11_advance_231 : decode cX11_advance 231 = .ok (.getfield 112, 3) := by decide +kernel
theorem dX11_advance_234 : decode cX11_advance 234 = .ok (.iconst 1, 1) := by decide +kernel
