theorem dJ6_bitCount_0f7a4_0 : decode cJ6_bitCount_0f7a4 0 = .ok (.iload_n 0, 1) := by decide +kernel
theorem dJ6_bitCount_0f7a4_1 : decode cJ6_bitCount_0f7a4 1 = .ok (.iload_n 0, 1) := by decide +kernel
theorem dJ6_bitCount_0f7a4_2 : decode cJ6_bitCount_0f7a4 2 = .ok (.iconst 1, 1) := by decide +kernel
theorem dJ6_bitCount_0f7a4_3 : decode cJ6_bitCount_0f7a4 3 = .ok (.iushr, 1) := by decide +kernel
theorem dJ6_bitCount_0f7a4_4 : decode cJ6_bitCount_0f7a4 4 = .ok (.ldc_w 265, 3) := by decide +kernel
theorem dJ6_bitCount_0f7a4_7 : decode cJ6_bitCount_0f7a4 7 = .ok (.iand, 1) := by decide +kernel
theorem dJ6_bitCount_0f7a4_8 : decode cJ6_bitCount_0f7a4 8 = .ok (.isub, 1) := by decide +kernel
theorem dJ6_bitCount_0f7a4_9 : decode cJ6_bitCount_0f7a4 9 = .ok (.istore_n 0, 1) := by decide +kernel
theorem dJ6_bitCount_0f7a4_10 : decode cJ6_bitCount_0f7a4 10 = .ok (.iload_n 0, 1) := by decide +kernel
theorem dJ6_bitCount_0f7a4_11 : decode cJ6_bitCount_0f7a4 11 = .ok (.ldc_w 266, 3) := by decide +kernel
theorem dJ6_bitCount_0f7a4_14 : decode cJ6_bitCount_0f7a4 14 = .ok (.iand, 1) := by decide +kernel
theorem dJ6_bitCount_0f7a4_15 : decode cJ6_bitCount_0f7a4 15 = .ok (.iload_n 0, 1) := by decide +kernel
theorem dJ6_bitCount_0f7a4_16 : decode cJ6_bitCount_0f7a4 16 = .ok (.iconst 2, 1) := by decide +kernel
theorem dJ6_bitCount_0f7a4_17 : decode cJ6_bitCount_0f7a4 17 = .ok (.iushr, 1) := by decide +kernel
theorem dJ6_bitCount_0f7a4_18 : decode cJ6_bitCount_0f7a4 18 = .ok (.ldc_w 266, 3) := by decide +kernel
theorem dJ6_bitCount_0f7a4_21 : decode cJ6_bitCount_0f7a4 21 = .ok (.iand, 1) := by decide +kernel
theorem dJ6_bitCount_0f7a4_22 : decode cJ6_bitCount_0f7a4 22 = .ok (.iadd, 1) := by decide +kernel
theorem dJ6_bitCount_0f7a4_23 : decode cJ6_bitCount_0f7a4 23 = .ok (.istore_n 0, 1) := by decide +kernel
theorem dJ6_bitCount_0f7a4_24 : decode cJ6_bitCount_0f7a4 24 = .ok (.iload_n 0, 1) := by decide +kernel
theorem dJ6_bitCount_0f7a4_25 : decode cJ6_bitCount_0f7a4 25 = .ok (.iload_n 0, 1) := by decide +kernel
theorem dJ6_bitCount_0f7a4_26 : decode cJ6_bitCount_0f7a4 26 = .ok (.iconst 4, 1) := by decide +kernel
theorem dJ6_bitCount_0f7a4_27 : decode cJ6_bitCount_0f7a4 27 = .ok (.iushr, 1) := by decide +kernel
theorem dJ6_bitCount_0f7a4_28 : decode cJ6_bitCount_0f7a4 28 = .ok (.iadd, 1) := by decide +kernel
theorem dJ6_bitCount_0f7a4_29 : decode cJ6_bitCount_0f7a4 29 = .ok (.ldc_w 267, 3) := by decide +kernel
theorem dJ6_bitCount_0f7a4_32 : decode cJ6_bitCount_0f7a4 32 = .ok (.iand, 1) := by decide +kernel
theorem dJ6_bitCount_0f7a4_33 : decode cJ6_bitCount_0f7a4 33 = .ok (.istore_n 0, 1) := by decide +kernel
theorem dJ6_bitCount_0f7a4_34 : decode cJ6_bitCount_0f7a4 34 = .ok (.iload_n 0, 1) := by decide +kernel
theorem dJ6_bitCount_0f7a4_35 : decode cJ6_bitCount_0f7a4 35 = .ok (.iload_n 0, 1) := by decide +kernel
theorem dJ6_bitCount_0f7a4_36 : decode cJ6_bitCount_0f7a4 36 = .ok (.bipush 8, 2) := by decide +kernel
theorem dJ6_bitCount_0f7a4_38 : decode cJ6_bitCount_0f7a4 38 = .ok (.iushr, 1) := by decide +kernel
theorem dJ6_bitCount_0f7a4_39 : decode cJ6_bitCount_0f7a4 39 = .ok (.iadd, 1) := by decide +kernel
theorem dJ6_bitCount_0f7a4_40 : decode cJ6_bitCount_0f7a4 40 = .ok (.istore_n 0, 1) := by decide +kernel
theorem dJ6_bitCount_0f7a4_41 : decode cJ6_bitCount_0f7a4 41 = .ok (.iload_n 0, 1) := by decide +kernel
theorem dJ6_bitCount_0f7a4_42 : decode cJ6_bitCount_0f7a4 42 = .ok (.iload_n 0, 1) := by decide +kernel
theorem dJ6_bitCount_0f7a4_43 : decode cJ6_bitCount_0f7a4 43 = .ok (.bipush 16, 2) := by decide +kernel
theorem dJ6_bitCount_0f7a4_45 : decode cJ6_bitCount_0f7a4 45 = .ok (.iushr, 1) := by decide +kernel
theorem dJ6_bitCount_0f7a4_46 : decode cJ6_bitCount_0f7a4 46 = .ok (.iadd, 1) := by decide +kernel
theorem dJ6_bitCount_0f7a4_47 : decode cJ6_bitCount_0f7a4 47 = .ok (.istore_n 0, 1) := by decide +kernel
theorem dJ6_bitCount_0f7a4_48 : decode cJ6_bitCount_0f7a4 48 = .ok (.iload_n 0, 1) := by decide +kernel
theorem dJ6_bitCount_0f7a4_49 : decode cJ6_bitCount_0f7a4 49 = .ok (.bipush 63, 2) := by decide +kernel
theorem dJ6_bitCount_0f7a4_51 : decode cJ6_bitCount_0f7a4 51 = .ok (.iand, 1) := by decide +kernel
theorem dJ6_bitCount_0f7a4_52 : decode cJ6_bitCount_0f7a4 52 = .ok (.ireturn, 1) := by decide +kernel
theorem dJ9_floorMod_7cf53_0 : decode cJ9_floorMod_7cf53 0 = .ok (.iload_n 0, 1) := by decide +kernel
theorem dJ9_floorMod_7cf53_1 : decode cJ9_floorMod_7cf53 1 = .ok (.iload_n 1, 1) := by decide +kernel
theorem dJ9_floorMod_7cf53_2 : decode cJ9_floorMod_7cf53 2 = .ok (.irem, 1) := by decide +kernel
theorem dJ9_floorMod_7cf53_3 : decode cJ9_floorMod_7cf53 3 = .ok (.istore_n 2, 1) := by decide +kernel
theorem dJ9_floorMod_7cf53_4 : decode cJ9_floorMod_7cf53 4 = .ok (.iload_n 0, 1) := by decide +kernel
theorem dJ9_floorMod_7cf53_5 : decode cJ9_floorMod_7cf53 5 = .ok (.iload_n 1, 1) := by decide +kernel
theorem dJ9_floorMod_7cf53_6 : decode cJ9_floorMod_7cf53 6 = .ok (.ixor, 1) := by decide +kernel
theorem dJ9_floorMod_7cf53_7 : decode cJ9_floorMod_7cf53 7 = .ok (.ifCond .ge 11, 3) := by decide +kernel
theorem dJ9_floorMod_7cf53_10 : decode cJ9_floorMod_7cf53 10 = .ok (.iload_n 2, 1) := by decide +kernel
theorem dJ9_floorMod_7cf53_11 : decode cJ9_floorMod_7cf53 11 = .ok (.ifCond .eq 7, 3) := by decide +kernel
theorem dJ9_floorMod_7cf53_14 : decode cJ9_floorMod_7cf53 14 = .ok (.iload_n 2, 1) := by decide +kernel
theorem dJ9_floorMod_7cf53_15 : decode cJ9_floorMod_7cf53 15 = .ok (.iload_n 1, 1) := by decide +kernel
theorem dJ9_floorMod_7cf53_16 : decode cJ9_floorMod_7cf53 16 = .ok (.iadd, 1) := by decide +kernel
theorem dJ9_floorMod_7cf53_17 : decode cJ9_floorMod_7cf53 17 = .ok (.ireturn, 1) := by decide +kernel
theorem dJ9_floorMod_7cf53_18 : decode cJ9_floorMod_7cf53 18 = .ok (.iload_n 2, 1) := by decide +kernel
theorem dJ9_floorMod_7cf53_19 : decode cJ9_floorMod_7cf53 19 = .ok (.ireturn, 1) := by decide +kernel
theorem dJ9_max_7cf53_0 : decode cJ9_max_7cf53 0 = .ok (.iload_n 0, 1) := by decide +kernel
theorem dJ9_max_7cf53_1 : decode cJ9_max_7cf53 1 = .ok (.iload_n 1, 1) := by decide +kernel
theorem dJ9_max_7cf53_2 : decode cJ9_max_7cf53 2 = .ok (.if_icmp .lt 7, 3) := by decide +kernel
theorem dJ9_max_7cf53_5 : decode cJ9_max_7cf53 5 = .ok (.iload_n 0, 1) := by decide +kernel
theorem dJ9_max_7cf53_6 : decode cJ9_max_7cf53 6 = .ok (.goto 4, 3) := by decide +kernel
theorem dJ9_max_7cf53_9 : decode cJ9_max_7cf53 9 = .ok (.iload_n 1, 1) := by decide +kernel
theorem dJ9_max_7cf53_10 : decode cJ9_max_7cf53 10 = .ok (.ireturn, 1) := by decide +kernel
theorem dJ9_min_7cf53_0 : decode cJ9_min_7cf53 0 = .ok (.iload_n 0, 1) := by decide +kernel
theorem dJ9_min_7cf53_1 : decode cJ9_min_7cf53 1 = .ok (.iload_n 1, 1) := by decide +kernel
theorem dJ9_min_7cf53_2 : decode cJ9_min_7cf53 2 = .ok (.if_icmp .gt 7, 3) := by decide +kernel
theorem dJ9_min_7cf53_5 : decode cJ9_min_7cf53 5 = .ok (.iload_n 0, 1) := by decide +kernel
theorem dJ9_min_7cf53_6 : decode cJ9_min_7cf53 6 = .ok (.goto 4, 3) := by decide +kernel
theorem dJ9_min_7cf53_9 : decode cJ9_min_7cf53 9 = .ok (.iload_n 1, 1) := by decide +kernel
theorem dJ9_min_7cf53_10 : decode cJ9_min_7cf53 10 = .ok (.ireturn, 1) := by decide +kernel
theorem dJ0_length_8abf5_0 : decode cJ0_length_8abf5 0 = .ok (.aload_n 0, 1) := by decide +kernel
theorem dJ0_length_8abf5_1 : decode cJ0_length_8abf5 1 = .ok (.getfield 9, 3) := by decide +kernel
theorem dJ0_length_8abf5_4 : decode cJ0_length_8abf5 4 = .ok (.arraylength, 1) := by decide +kernel
theorem dJ0_length_8abf5_5 : decode cJ0_length_8abf5 5 = .ok (.aload_n 0, 1) := by decide +kernel
theorem dJ0_length_8abf5_6 : decode cJ0_length_8abf5 6 = .ok (.invokevirtual 335, 3) := by decide +kernel
theorem dJ0_length_8abf5_9 : decode cJ0_length_8abf5 9 = .ok (.ishr, 1) := by decide +kernel
theorem dJ0_length_8abf5_10 : decode cJ0_length_8abf5 10 = .ok (.ireturn, 1) := by decide +kernel
theorem dJ0_isEmpty_aae02_0 : decode cJ0_isEmpty_aae02 0 = .ok (.aload_n 0, 1) := by decide +kernel
theorem dJ0_isEmpty_aae02_1 : decode cJ0_isEmpty_aae02 1 = .ok (.getfield 9, 3) := by decide +kernel
theorem dJ0_isEmpty_aae02_4 : decode cJ0_isEmpty_aae02 4 = .ok (.arraylength, 1) := by decide +kernel
theorem dJ0_isEmpty_aae02_5 : decode cJ0_isEmpty_aae02 5 = .ok (.ifCond .ne 7, 3) := by decide +kernel
theorem dJ0_isEmpty_aae02_8 : decode cJ0_isEmpty_aae02 8 = .ok (.iconst 1, 1) := by decide +kernel
theorem dJ0_isEmpty_aae02_9 : decode cJ0_isEmpty_aae02 9 = .ok (.goto 4, 3) := by decide +kernel
theorem dJ0_isEmpty_aae02_12 : decode cJ0_isEmpty_aae02 12 = .ok (.iconst 0, 1) := by decide +kernel
theorem dJ0_isEmpty_aae02_13 : decode cJ0_isEmpty_aae02 13 = .ok (.ireturn, 1) := by decide +kernel
theorem dJ0_charAt_5068e_0 : decode cJ0_charAt_5068e 0 = .ok (.aload_n 0, 1) := by decide +kernel
theorem dJ0_charAt_5068e_1 : decode cJ0_charAt_5068e 1 = .ok (.invokevirtual 492, 3) := by decide +kernel
theorem dJ0_charAt_5068e_4 : decode cJ0_charAt_5068e 4 = .ok (.ifCond .eq 12, 3) := by decide +kernel
theorem dJ0_charAt_5068e_7 : decode cJ0_charAt_5068e 7 = .ok (.aload_n 0, 1) := by decide +kernel
theorem dJ0_charAt_5068e_8 : decode cJ0_charAt_5068e 8 = .ok (.getfield 9, 3) := by decide +kernel
theorem dJ0_charAt_5068e_11 : decode cJ0_charAt_5068e 11 = .ok (.iload_n 1, 1) := by decide +kernel
theorem dJ0_charAt_5068e_12 : decode cJ0_charAt_5068e 12 = .ok (.invokestatic 495, 3) := by decide +kernel
theorem dJ0_charAt_5068e_15 : decode cJ0_charAt_5068e 15 = .ok (.ireturn, 1) := by decide +kernel
theorem dJ0_charAt_5068e_16 : decode cJ0_charAt_5068e 16 = .ok (.aload_n 0, 1) := by decide +kernel
theorem dJ0_charAt_5068e_17 : decode cJ0_charAt_5068e 17 = .ok (.getfield 9, 3) := by decide +kernel
theorem dJ0_charAt_5068e_20 : decode cJ0_charAt_5068e 20 = .ok (.iload_n 1, 1) := by decide +kernel
theorem dJ0_charAt_5068e_21 : decode cJ0_charAt_5068e 21 = .ok (.invokestatic 498, 3) := by decide +kernel
theorem dJ0_charAt_5068e_24 : decode cJ0_charAt_5068e 24 = .ok (.ireturn, 1) := by decide +kernel
theorem dJ0_coder_7d493_0 : decode cJ0_coder_7d493 0 = .ok (.getstatic 38, 3) := by decide +kernel
theorem dJ0_coder_7d493_3 : decode cJ0_coder_7d493 3 = .ok (.ifCond .eq 10, 3) := by decide +kernel
theorem dJ0_coder_7d493_6 : decode cJ0_coder_7d493 6 = .ok (.aload_n 0, 1) := by decide +kernel
theorem dJ0_coder_7d493_7 : decode cJ0_coder_7d493 7 = .ok (.getfield 15, 3) := by decide +kernel
theorem dJ0_coder_7d493_10 : decode cJ0_coder_7d493 10 = .ok (.goto 4, 3) := by decide +kernel
theorem dJ0_coder_7d493_13 : decode cJ0_coder_7d493 13 = .ok (.iconst 1, 1) := by decide +kernel
theorem dJ0_coder_7d493_14 : decode cJ0_coder_7d493 14 = .ok (.ireturn, 1) := by decide +kernel
theorem dJ0_isLatin1_aae02_0 : decode cJ0_isLatin1_aae02 0 = .ok (.getstatic 38, 3) := by decide +kernel
theorem dJ0_isLatin1_aae02_3 : decode cJ0_isLatin1_aae02 3 = .ok (.ifCond .eq 14, 3) := by decide +kernel
theorem dJ0_isLatin1_aae02_6 : decode cJ0_isLatin1_aae02 6 = .ok (.aload_n 0, 1) := by decide +kernel
theorem dJ0_isLatin1_aae02_7 : decode cJ0_isLatin1_aae02 7 = .ok (.getfield 15, 3) := by decide +kernel
theorem dJ0_isLatin1_aae02_10 : decode cJ0_isLatin1_aae02 10 = .ok (.ifCond .ne 7, 3) := by decide +kernel
theorem dJ0_isLatin1_aae02_13 : decode cJ0_isLatin1_aae02 13 = .ok (.iconst 1, 1) := by decide +kernel
theorem dJ0_isLatin1_aae02_14 : decode cJ0_isLatin1_aae02 14 = .ok (.goto 4, 3) := by decide +kernel
theorem dJ0_isLatin1_aae02_17 : decode cJ0_isLatin1_aae02 17 = .ok (.iconst 0, 1) := by decide +kernel
theorem dJ0_isLatin1_aae02_18 : decode cJ0_isLatin1_aae02 18 = .ok (.ireturn, 1) := by decide +kernel
theorem dJ0_checkIndex_df160_0 : decode cJ0_checkIndex_df160 0 = .ok (.iload_n 0, 1) := by decide +kernel
theorem dJ0_checkIndex_df160_1 : decode cJ0_checkIndex_df160 1 = .ok (.iload_n 1, 1) := by decide +kernel
theorem dJ0_checkIndex_df160_2 : decode cJ0_checkIndex_df160 2 = .ok (.getstatic 1053, 3) := by decide +kernel
theorem dJ0_checkIndex_df160_5 : decode cJ0_checkIndex_df160 5 = .ok (.invokestatic 1059, 3) := by decide +kernel
theorem dJ0_checkIndex_df160_8 : decode cJ0_checkIndex_df160 8 = .ok (.pop, 1) := by decide +kernel
theorem dJ0_checkIndex_df160_9 : decode cJ0_checkIndex_df160 9 = .ok (.return_, 1) := by decide +kernel
theorem dJ1_charAt_3b067_0 : decode cJ1_charAt_3b067 0 = .ok (.iload_n 1, 1) := by decide +kernel
theorem dJ1_charAt_3b067_1 : decode cJ1_charAt_3b067 1 = .ok (.aload_n 0, 1) := by decide +kernel
theorem dJ1_charAt_3b067_2 : decode cJ1_charAt_3b067 2 = .ok (.arraylength, 1) := by decide +kernel
theorem dJ1_charAt_3b067_3 : decode cJ1_charAt_3b067 3 = .ok (.invokestatic 9, 3) := by decide +kernel
theorem dJ1_charAt_3b067_6 : decode cJ1_charAt_3b067 6 = .ok (.aload_n 0, 1) := by decide +kernel
theorem dJ1_charAt_3b067_7 : decode cJ1_charAt_3b067 7 = .ok (.iload_n 1, 1) := by decide +kernel
theorem dJ1_charAt_3b067_8 : decode cJ1_charAt_3b067 8 = .ok (.baload, 1) := by decide +kernel
theorem dJ1_charAt_3b067_9 : decode cJ1_charAt_3b067 9 = .ok (.sipush 255, 3) := by decide +kernel
theorem dJ1_charAt_3b067_12 : decode cJ1_charAt_3b067 12 = .ok (.iand, 1) := by decide +kernel
theorem dJ1_charAt_3b067_13 : decode cJ1_charAt_3b067 13 = .ok (.i2c, 1) := by decide +kernel
theorem dJ1_charAt_3b067_14 : decode cJ1_charAt_3b067 14 = .ok (.ireturn, 1) := by decide +kernel
theorem dJ2_getChar_3b067_0 : decode cJ2_getChar_3b067 0 = .ok (.getstatic 44, 3) := by decide +kernel
theorem dJ2_getChar_3b067_3 : decode cJ2_getChar_3b067 3 = .ok (.ifCond .ne 25, 3) := by decide +kernel
theorem dJ2_getChar_3b067_6 : decode cJ2_getChar_3b067 6 = .ok (.iload_n 1, 1) := by decide +kernel
theorem dJ2_getChar_3b067_7 : decode cJ2_getChar_3b067 7 = .ok (.ifCond .lt 11, 3) := by decide +kernel
theorem dJ2_getChar_3b067_10 : decode cJ2_getChar_3b067 10 = .ok (.iload_n 1, 1) := by decide +kernel
theorem dJ2_getChar_3b067_11 : decode cJ2_getChar_3b067 11 = .ok (.aload_n 0, 1) := by decide +kernel
theorem dJ2_getChar_3b067_12 : decode cJ2_getChar_3b067 12 = .ok (.invokestatic 48, 3) := by decide +kernel
theorem dJ2_getChar_3b067_15 : decode cJ2_getChar_3b067 15 = .ok (.if_icmp .lt 13, 3) := by decide +kernel
theorem dJ2_getChar_3b067_18 : decode cJ2_getChar_3b067 18 = .ok (.new 52, 3) := by decide +kernel
theorem dJ2_getChar_3b067_21 : decode cJ2_getChar_3b067 21 = .ok (.dup, 1) := by decide +kernel
theorem dJ2_getChar_3b067_22 : decode cJ2_getChar_3b067 22 = .ok (.ldc 54, 2) := by decide +kernel
theorem dJ2_getChar_3b067_24 : decode cJ2_getChar_3b067 24 = .ok (.invokespecial 56, 3) := by decide +kernel
theorem dJ2_getChar_3b067_27 : decode cJ2_getChar_3b067 27 = .ok (.athrow, 1) := by decide +kernel
theorem dJ2_getChar_3b067_28 : decode cJ2_getChar_3b067 28 = .ok (.iload_n 1, 1) := by decide +kernel
theorem dJ2_getChar_3b067_29 : decode cJ2_getChar_3b067 29 = .ok (.iconst 1, 1) := by decide +kernel
theorem dJ2_getChar_3b067_30 : decode cJ2_getChar_3b067 30 = .ok (.ishl, 1) := by decide +kernel
theorem dJ2_getChar_3b067_31 : decode cJ2_getChar_3b067 31 = .ok (.istore_n 1, 1) := by decide +kernel
theorem dJ2_getChar_3b067_32 : decode cJ2_getChar_3b067 32 = .ok (.aload_n 0, 1) := by decide +kernel
theorem dJ2_getChar_3b067_33 : decode cJ2_getChar_3b067 33 = .ok (.iload_n 1, 1) := by decide +kernel
theorem dJ2_getChar_3b067_34 : decode cJ2_getChar_3b067 34 = .ok (.iinc 1 1, 3) := by decide +kernel
theorem dJ2_getChar_3b067_37 : decode cJ2_getChar_3b067 37 = .ok (.baload, 1) := by decide +kernel
theorem dJ2_getChar_3b067_38 : decode cJ2_getChar_3b067 38 = .ok (.sipush 255, 3) := by decide +kernel
theorem dJ2_getChar_3b067_41 : decode cJ2_getChar_3b067 41 = .ok (.iand, 1) := by decide +kernel
theorem dJ2_getChar_3b067_42 : decode cJ2_getChar_3b067 42 = .ok (.getstatic 59, 3) := by decide +kernel
theorem dJ2_getChar_3b067_45 : decode cJ2_getChar_3b067 45 = .ok (.ishl, 1) := by decide +kernel
theorem dJ2_getChar_3b067_46 : decode cJ2_getChar_3b067 46 = .ok (.aload_n 0, 1) := by decide +kernel
theorem dJ2_getChar_3b067_47 : decode cJ2_getChar_3b067 47 = .ok (.iload_n 1, 1) := by decide +kernel
theorem dJ2_getChar_3b067_48 : decode cJ2_getChar_3b067 48 = .ok (.baload, 1) := by decide +kernel
theorem dJ2_getChar_3b067_49 : decode cJ2_getChar_3b067 49 = .ok (.sipush 255, 3) := by decide +kernel
theorem dJ2_getChar_3b067_52 : decode cJ2_getChar_3b067 52 = .ok (.iand, 1) := by decide +kernel
theorem dJ2_getChar_3b067_53 : decode cJ2_getChar_3b067 53 = .ok (.getstatic 63, 3) := by decide +kernel
theorem dJ2_getChar_3b067_56 : decode cJ2_getChar_3b067 56 = .ok (.ishl, 1) := by decide +kernel
theorem dJ2_getChar_3b067_57 : decode cJ2_getChar_3b067 57 = .ok (.ior, 1) := by decide +kernel
theorem dJ2_getChar_3b067_58 : decode cJ2_getChar_3b067 58 = .ok (.i2c, 1) := by decide +kernel
theorem dJ2_getChar_3b067_59 : decode cJ2_getChar_3b067 59 = .ok (.ireturn, 1) := by decide +kernel
theorem dJ2_length_9d52b_0 : decode cJ2_length_9d52b 0 = .ok (.aload_n 0, 1) := by decide +kernel
theorem dJ2_length_9d52b_1 : decode cJ2_length_9d52b 1 = .ok (.arraylength, 1) := by decide +kernel
theorem dJ2_length_9d52b_2 : decode cJ2_length_9d52b 2 = .ok (.iconst 1, 1) := by decide +kernel
theorem dJ2_length_9d52b_3 : decode cJ2_length_9d52b 3 = .ok (.ishr, 1) := by decide +kernel
theorem dJ2_length_9d52b_4 : decode cJ2_length_9d52b 4 = .ok (.ireturn, 1) := by decide +kernel
theorem dJ2_charAt_3b067_0 : decode cJ2_charAt_3b067 0 = .ok (.iload_n 1, 1) := by decide +kernel
theorem dJ2_charAt_3b067_1 : decode cJ2_charAt_3b067 1 = .ok (.aload_n 0, 1) := by decide +kernel
theorem dJ2_charAt_3b067_2 : decode cJ2_charAt_3b067 2 = .ok (.invokestatic 67, 3) := by decide +kernel
theorem dJ2_charAt_3b067_5 : decode cJ2_charAt_3b067 5 = .ok (.aload_n 0, 1) := by decide +kernel
theorem dJ2_charAt_3b067_6 : decode cJ2_charAt_3b067 6 = .ok (.iload_n 1, 1) := by decide +kernel
theorem dJ2_charAt_3b067_7 : decode cJ2_charAt_3b067 7 = .ok (.invokestatic 71, 3) := by decide +kernel
theorem dJ2_charAt_3b067_10 : decode cJ2_charAt_3b067 10 = .ok (.ireturn, 1) := by decide +kernel
theorem dJ2_checkIndex_2214a_0 : decode cJ2_checkIndex_2214a 0 = .ok (.iload_n 0, 1) := by decide +kernel
theorem dJ2_checkIndex_2214a_1 : decode cJ2_checkIndex_2214a 1 = .ok (.aload_n 1, 1) := by decide +kernel
theorem dJ2_checkIndex_2214a_2 : decode cJ2_checkIndex_2214a 2 = .ok (.invokestatic 48, 3) := by decide +kernel
theorem dJ2_checkIndex_2214a_5 : decode cJ2_checkIndex_2214a 5 = .ok (.invokestatic 414, 3) := by decide +kernel
theorem dJ2_checkIndex_2214a_8 : decode cJ2_checkIndex_2214a 8 = .ok (.return_, 1) := by decide +kernel
theorem dJ3_checkIndex_8e157_0 : decode cJ3_checkIndex_8e157 0 = .ok (.iload_n 0, 1) := by decide +kernel
theorem dJ3_checkIndex_8e157_1 : decode cJ3_checkIndex_8e157 1 = .ok (.ifCond .lt 8, 3) := by decide +kernel
theorem dJ3_checkIndex_8e157_4 : decode cJ3_checkIndex_8e157 4 = .ok (.iload_n 0, 1) := by decide +kernel
theorem dJ3_checkIndex_8e157_5 : decode cJ3_checkIndex_8e157 5 = .ok (.iload_n 1, 1) := by decide +kernel
theorem dJ3_checkIndex_8e157_6 : decode cJ3_checkIndex_8e157 6 = .ok (.if_icmp .lt 10, 3) := by decide +kernel
theorem dJ3_checkIndex_8e157_9 : decode cJ3_checkIndex_8e157 9 = .ok (.aload_n 2, 1) := by decide +kernel
theorem dJ3_checkIndex_8e157_10 : decode cJ3_checkIndex_8e157 10 = .ok (.iload_n 0, 1) := by decide +kernel
theorem dJ3_checkIndex_8e157_11 : decode cJ3_checkIndex_8e157 11 = .ok (.iload_n 1, 1) := by decide +kernel
theorem dJ3_checkIndex_8e157_12 : decode cJ3_checkIndex_8e157 12 = .ok (.invokestatic 95, 3) := by decide +kernel
theorem dJ3_checkIndex_8e157_15 : decode cJ3_checkIndex_8e157 15 = .ok (.athrow, 1) := by decide +kernel
theorem dJ3_checkIndex_8e157_16 : decode cJ3_checkIndex_8e157 16 = .ok (.iload_n 0, 1) := by decide +kernel
theorem dJ3_checkIndex_8e157_17 : decode cJ3_checkIndex_8e157 17 = .ok (.ireturn, 1) := by decide +kernel
theorem dX0_init_0 : decode cX0_init 0 = .ok (.aload_n 0, 1) := by decide +kernel
theorem dX0_init_1 : decode cX0_init 1 = .ok (.invokespecial 5, 3) := by decide +kernel
theorem dX0_init_4 : decode cX0_init 4 = .ok (.aload_n 0, 1) := by decide +kernel
theorem dX0_init_5 : decode cX0_init 5 = .ok (.iconst 5, 1) := by decide +kernel
theorem dX0_init_6 : decode cX0_init 6 = .ok (.newarray .int, 2) := by decide +kernel
theorem dX0_init_8 : decode cX0_init 8 = .ok (.putfield 11, 3) := by decide +kernel
theorem dX0_init_11 : decode cX0_init 11 = .ok (.aload_n 0, 1) := by decide +kernel
theorem dX0_init_12 : decode cX0_init 12 = .ok (.bipush 25, 2) := by decide +kernel
theorem dX0_init_14 : decode cX0_init 14 = .ok (.newarray .int, 2) := by decide +kernel
theorem dX0_init_16 : decode cX0_init 16 = .ok (.putfield 15, 3) := by decide +kernel
theorem dX0_init_19 : decode cX0_init 19 = .ok (.aload_n 0, 1) := by decide +kernel
theorem dX0_init_20 : decode cX0_init 20 = .ok (.iconst 5, 1) := by decide +kernel
theorem dX0_init_21 : decode cX0_init 21 = .ok (.newarray .int, 2) := by decide +kernel
theorem dX0_init_23 : decode cX0_init 23 = .ok (.putfield 18, 3) := by decide +kernel
theorem dX0_init_26 : decode cX0_init 26 = .ok (.aload_n 0, 1) := by decide +kernel
theorem dX0_init_27 : decode cX0_init 27 = .ok (.iconst 5, 1) := by decide +kernel
theorem dX0_init_28 : decode cX0_init 28 = .ok (.newarray .int, 2) := by decide +kernel
theorem dX0_init_30 : decode cX0_init 30 = .ok (.putfield 21, 3) := by decide +kernel
theorem dX0_init_33 : decode cX0_init 33 = .ok (.aload_n 0, 1) := by decide +kernel
theorem dX0_init_34 : decode cX0_init 34 = .ok (.bipush 101, 2) := by decide +kernel
theorem dX0_init_36 : decode cX0_init 36 = .ok (.newarray .int, 2) := by decide +kernel
theorem dX0_init_38 : decode cX0_init 38 = .ok (.putfield 24, 3) := by decide +kernel
theorem dX0_init_41 : decode cX0_init 41 = .ok (.aload_n 0, 1) := by decide +kernel
theorem dX0_init_42 : decode cX0_init 42 = .ok (.bipush 101, 2) := by decide +kernel
theorem dX0_init_44 : decode cX0_init 44 = .ok (.newarray .int, 2) := by decide +kernel
theorem dX0_init_46 : decode cX0_init 46 = .ok (.putfield 27, 3) := by decide +kernel
theorem dX0_init_49 : decode cX0_init 49 = .ok (.aload_n 0, 1) := by decide +kernel
theorem dX0_init_50 : decode cX0_init 50 = .ok (.bipush 101, 2) := by decide +kernel
theorem dX0_init_52 : decode cX0_init 52 = .ok (.newarray .int, 2) := by decide +kernel
theorem dX0_init_54 : decode cX0_init 54 = .ok (.putfield 30, 3) := by decide +kernel
theorem dX0_init_57 : decode cX0_init 57 = .ok (.aload_n 0, 1) := by decide +kernel
theorem dX0_init_58 : decode cX0_init 58 = .ok (.bipush 101, 2) := by decide +kernel
theorem dX0_init_60 : decode cX0_init 60 = .ok (.newarray .int, 2) := by decide +kernel
theorem dX0_init_62 : decode cX0_init 62 = .ok (.putfield 33, 3) := by decide +kernel
theorem dX0_init_65 : decode cX0_init 65 = .ok (.return_, 1) := by decide +kernel
theorem dX0_lookAt_0 : decode cX0_lookAt 0 = .ok (.iconst 0, 1) := by decide +kernel
theorem dX0_lookAt_1 : decode cX0_lookAt 1 = .ok (.istore_n 2, 1) := by decide +kernel
theorem dX0_lookAt_2 : decode cX0_lookAt 2 = .ok (.iload_n 2, 1) := by decide +kernel
theorem dX0_lookAt_3 : decode cX0_lookAt 3 = .ok (.iconst 4, 1) := by decide +kernel
theorem dX0_lookAt_4 : decode cX0_lookAt 4 = .ok (.if_icmp .gt 16, 3) := by decide +kernel
theorem dX0_lookAt_7 : decode cX0_lookAt 7 = .ok (.aload_n 0, 1) := by decide +kernel
theorem dX0_lookAt_8 : decode cX0_lookAt 8 = .ok (.getfield 11, 3) := by decide +kernel
theorem dX0_lookAt_11 : decode cX0_lookAt 11 = .ok (.iload_n 2, 1) := by decide +kernel
theorem dX0_lookAt_12 : decode cX0_lookAt 12 = .ok (.iconst 0, 1) := by decide +kernel
theorem dX0_lookAt_13 : decode cX0_lookAt 13 = .ok (.iastore, 1) := by decide +kernel
theorem dX0_lookAt_14 : decode cX0_lookAt 14 = .ok (.iinc 2 1, 3) := by decide +kernel
theorem dX0_lookAt_17 : decode cX0_lookAt 17 = .ok (.goto (-15), 3) := by decide +kernel
theorem dX0_lookAt_20 : decode cX0_lookAt 20 = .ok (.iconst 0, 1) := by decide +kernel
theorem dX0_lookAt_21 : decode cX0_lookAt 21 = .ok (.istore_n 2, 1) := by decide +kernel
theorem dX0_lookAt_22 : decode cX0_lookAt 22 = .ok (.iload_n 2, 1) := by decide +kernel
theorem dX0_lookAt_23 : decode cX0_lookAt 23 = .ok (.bipush 25, 2) := by decide +kernel
theorem dX0_lookAt_25 : decode cX0_lookAt 25 = .ok (.if_icmp .ge 62, 3) := by decide +kernel
theorem dX0_lookAt_28 : decode cX0_lookAt 28 = .ok (.aload_n 1, 1) := by decide +kernel
theorem dX0_lookAt_29 : decode cX0_lookAt 29 = .ok (.getfield 36, 3) := by decide +kernel
theorem dX0_lookAt_32 : decode cX0_lookAt 32 = .ok (.iload_n 2, 1) := by decide +kernel
theorem dX0_lookAt_33 : decode cX0_lookAt 33 = .ok (.iaload, 1) := by decide +kernel
theorem dX0_lookAt_34 : decode cX0_lookAt 34 = .ok (.istore_n 3, 1) := by decide +kernel
theorem dX0_lookAt_35 : decode cX0_lookAt 35 = .ok (.aload_n 0, 1) := by decide +kernel
theorem dX0_lookAt_36 : decode cX0_lookAt 36 = .ok (.getfield 15, 3) := by decide +kernel
theorem dX0_lookAt_39 : decode cX0_lookAt 39 = .ok (.iload_n 2, 1) := by decide +kernel
theorem dX0_lookAt_40 : decode cX0_lookAt 40 = .ok (.iload_n 3, 1) := by decide +kernel
theorem dX0_lookAt_41 : decode cX0_lookAt 41 = .ok (.aload_n 1, 1) := by decide +kernel
theorem dX0_lookAt_42 : decode cX0_lookAt 42 = .ok (.getfield 41, 3) := by decide +kernel
theorem dX0_lookAt_45 : decode cX0_lookAt 45 = .ok (.iload_n 2, 1) := by decide +kernel
theorem dX0_lookAt_46 : decode cX0_lookAt 46 = .ok (.iaload, 1) := by decide +kernel
theorem dX0_lookAt_47 : decode cX0_lookAt 47 = .ok (.invokestatic 44, 3) := by decide +kernel
theorem dX0_lookAt_50 : decode cX0_lookAt 50 = .ok (.iastore, 1) := by decide +kernel
theorem dX0_lookAt_51 : decode cX0_lookAt 51 = .ok (.iload_n 3, 1) := by decide +kernel
theorem dX0_lookAt_52 : decode cX0_lookAt 52 = .ok (.invokestatic 50, 3) := by decide +kernel
theorem dX0_lookAt_55 : decode cX0_lookAt 55 = .ok (.istore 4, 2) := by decide +kernel
theorem dX0_lookAt_57 : decode cX0_lookAt 57 = .ok (.iload 4, 2) := by decide +kernel
theorem dX0_lookAt_59 : decode cX0_lookAt 59 = .ok (.ifCond .le 22, 3) := by decide +kernel
theorem dX0_lookAt_62 : decode cX0_lookAt 62 = .ok (.iload 4, 2) := by decide +kernel
theorem dX0_lookAt_64 : decode cX0_lookAt 64 = .ok (.iconst 4, 1) := by decide +kernel
theorem dX0_lookAt_65 : decode cX0_lookAt 65 = .ok (.if_icmp .gt 16, 3) := by decide +kernel
theorem dX0_lookAt_68 : decode cX0_lookAt 68 = .ok (.aload_n 0, 1) := by decide +kernel
theorem dX0_lookAt_69 : decode cX0_lookAt 69 = .ok (.getfield 11, 3) := by decide +kernel
theorem dX0_lookAt_72 : decode cX0_lookAt 72 = .ok (.iload 4, 2) := by decide +kernel
theorem dX0_lookAt_74 : decode cX0_lookAt 74 = .ok (.dup2, 1) := by decide +kernel
theorem dX0_lookAt_75 : decode cX0_lookAt 75 = .ok (.iaload, 1) := by decide +kernel
theorem dX0_lookAt_76 : decode cX0_lookAt 76 = .ok (.iconst 1, 1) := by decide +kernel
theorem dX0_lookAt_77 : decode cX0_lookAt 77 = .ok (.iload_n 2, 1) := by decide +kernel
theorem dX0_lookAt_78 : decode cX0_lookAt 78 = .ok (.ishl, 1) := by decide +kernel
theorem dX0_lookAt_79 : decode cX0_lookAt 79 = .ok (.ior, 1) := by decide +kernel
theorem dX0_lookAt_80 : decode cX0_lookAt 80 = .ok (.iastore, 1) := by decide +kernel
theorem dX0_lookAt_81 : decode cX0_lookAt 81 = .ok (.iinc 2 1, 3) := by decide +kernel
theorem dX0_lookAt_84 : decode cX0_lookAt 84 = .ok (.goto (-62), 3) := by decide +kernel
theorem dX0_lookAt_87 : decode cX0_lookAt 87 = .ok (.aload_n 0, 1) := by decide +kernel
theorem dX0_lookAt_88 : decode cX0_lookAt 88 = .ok (.aload_n 1, 1) := by decide +kernel
theorem dX0_lookAt_89 : decode cX0_lookAt 89 = .ok (.getfield 54, 3) := by decide +kernel
theorem dX0_lookAt_92 : decode cX0_lookAt 92 = .ok (.iconst 5, 1) := by decide +kernel
theorem dX0_lookAt_93 : decode cX0_lookAt 93 = .ok (.invokestatic 58, 3) := by decide +kernel
theorem dX0_lookAt_96 : decode cX0_lookAt 96 = .ok (.putfield 63, 3) := by decide +kernel
theorem dX0_lookAt_99 : decode cX0_lookAt 99 = .ok (.iconst 0, 1) := by decide +kernel
theorem dX0_lookAt_100 : decode cX0_lookAt 100 = .ok (.istore_n 2, 1) := by decide +kernel
theorem dX0_lookAt_101 : decode cX0_lookAt 101 = .ok (.iload_n 2, 1) := by decide +kernel
theorem dX0_lookAt_102 : decode cX0_lookAt 102 = .ok (.aload_n 0, 1) := by decide +kernel
theorem dX0_lookAt_103 : decode cX0_lookAt 103 = .ok (.getfield 63, 3) := by decide +kernel
theorem dX0_lookAt_106 : decode cX0_lookAt 106 = .ok (.if_icmp .ge 20, 3) := by decide +kernel
theorem dX0_lookAt_109 : decode cX0_lookAt 109 = .ok (.aload_n 0, 1) := by decide +kernel
theorem dX0_lookAt_110 : decode cX0_lookAt 110 = .ok (.getfield 18, 3) := by decide +kernel
theorem dX0_lookAt_113 : decode cX0_lookAt 113 = .ok (.iload_n 2, 1) := by decide +kernel
theorem dX0_lookAt_114 : decode cX0_lookAt 114 = .ok (.aload_n 1, 1) := by decide +kernel
theorem dX0_lookAt_115 : decode cX0_lookAt 115 = .ok (.iload_n 2, 1) := by decide +kernel
theorem dX0_lookAt_116 : decode cX0_lookAt 116 = .ok (.invokevirtual 64, 3) := by decide +kernel
theorem dX0_lookAt_119 : decode cX0_lookAt 119 = .ok (.iastore, 1) := by decide +kernel
theorem dX0_lookAt_120 : decode cX0_lookAt 120 = .ok (.iinc 2 1, 3) := by decide +kernel
theorem dX0_lookAt_123 : decode cX0_lookAt 123 = .ok (.goto (-22), 3) := by decide +kernel
theorem dX0_lookAt_126 : decode cX0_lookAt 126 = .ok (.return_, 1) := by decide +kernel
theorem dX0_letAllSpeak_0 : decode cX0_letAllSpeak 0 = .ok (.aload_n 0, 1) := by decide +kernel
theorem dX0_letAllSpeak_1 : decode cX0_letAllSpeak 1 = .ok (.iload_n 1, 1) := by decide +kernel
theorem dX0_letAllSpeak_2 : decode cX0_letAllSpeak 2 = .ok (.iconst 1, 1) := by decide +kernel
theorem dX0_letAllSpeak_3 : decode cX0_letAllSpeak 3 = .ok (.aload_n 0, 1) := by decide +kernel
theorem dX0_letAllSpeak_4 : decode cX0_letAllSpeak 4 = .ok (.getfield 63, 3) := by decide +kernel
theorem dX0_letAllSpeak_7 : decode cX0_letAllSpeak 7 = .ok (.ishl, 1) := by decide +kernel
theorem dX0_letAllSpeak_8 : decode cX0_letAllSpeak 8 = .ok (.iconst 1, 1) := by decide +kernel
theorem dX0_letAllSpeak_9 : decode cX0_letAllSpeak 9 = .ok (.isub, 1) := by decide +kernel
theorem dX0_letAllSpeak_10 : decode cX0_letAllSpeak 10 = .ok (.invokevirtual 67, 3) := by decide +kernel
theorem dX0_letAllSpeak_13 : decode cX0_letAllSpeak 13 = .ok (.return_, 1) := by decide +kernel
theorem dX0_letSpeak_0 : decode cX0_letSpeak 0 = .ok (.aload_n 0, 1) := by decide +kernel
theorem dX0_letSpeak_1 : decode cX0_letSpeak 1 = .ok (.iconst 0, 1) := by decide +kernel
theorem dX0_letSpeak_2 : decode cX0_letSpeak 2 = .ok (.putfield 71, 3) := by decide +kernel
theorem dX0_letSpeak_5 : decode cX0_letSpeak 5 = .ok (.iconst 0, 1) := by decide +kernel
theorem dX0_letSpeak_6 : decode cX0_letSpeak 6 = .ok (.istore_n 3, 1) := by decide +kernel
theorem dX0_letSpeak_7 : decode cX0_letSpeak 7 = .ok (.iload_n 3, 1) := by decide +kernel
theorem dX0_letSpeak_8 : decode cX0_letSpeak 8 = .ok (.aload_n 0, 1) := by decide +kernel
theorem dX0_letSpeak_9 : decode cX0_letSpeak 9 = .ok (.getfield 63, 3) := by decide +kernel
theorem dX0_letSpeak_12 : decode cX0_letSpeak 12 = .ok (.if_icmp .ge 60, 3) := by decide +kernel
theorem dX0_letSpeak_15 : decode cX0_letSpeak 15 = .ok (.iload_n 1, 1) := by decide +kernel
theorem dX0_letSpeak_16 : decode cX0_letSpeak 16 = .ok (.iload_n 3, 1) := by decide +kernel
theorem dX0_letSpeak_17 : decode cX0_letSpeak 17 = .ok (.iadd, 1) := by decide +kernel
theorem dX0_letSpeak_18 : decode cX0_letSpeak 18 = .ok (.aload_n 0, 1) := by decide +kernel
theorem dX0_letSpeak_19 : decode cX0_letSpeak 19 = .ok (.getfield 63, 3) := by decide +kernel
theorem dX0_letSpeak_22 : decode cX0_letSpeak 22 = .ok (.invokestatic 74, 3) := by decide +kernel
theorem dX0_letSpeak_25 : decode cX0_letSpeak 25 = .ok (.istore 4, 2) := by decide +kernel
theorem dX0_letSpeak_27 : decode cX0_letSpeak 27 = .ok (.iload_n 2, 1) := by decide +kernel
theorem dX0_letSpeak_28 : decode cX0_letSpeak 28 = .ok (.iload 4, 2) := by decide +kernel
theorem dX0_letSpeak_30 : decode cX0_letSpeak 30 = .ok (.ishr, 1) := by decide +kernel
theorem dX0_letSpeak_31 : decode cX0_letSpeak 31 = .ok (.iconst 1, 1) := by decide +kernel
theorem dX0_letSpeak_32 : decode cX0_letSpeak 32 = .ok (.iand, 1) := by decide +kernel
theorem dX0_letSpeak_33 : decode cX0_letSpeak 33 = .ok (.iconst 1, 1) := by decide +kernel
theorem dX0_letSpeak_34 : decode cX0_letSpeak 34 = .ok (.if_icmp .ne 32, 3) := by decide +kernel
theorem dX0_letSpeak_37 : decode cX0_letSpeak 37 = .ok (.aload_n 0, 1) := by decide +kernel
theorem dX0_letSpeak_38 : decode cX0_letSpeak 38 = .ok (.getfield 71, 3) := by decide +kernel
theorem dX0_letSpeak_41 : decode cX0_letSpeak 41 = .ok (.iconst 5, 1) := by decide +kernel
theorem dX0_letSpeak_42 : decode cX0_letSpeak 42 = .ok (.if_icmp .ge 24, 3) := by decide +kernel
theorem dX0_letSpeak_45 : decode cX0_letSpeak 45 = .ok (.aload_n 0, 1) := by decide +kernel
theorem dX0_letSpeak_46 : decode cX0_letSpeak 46 = .ok (.getfield 21, 3) := by decide +kernel
theorem dX0_letSpeak_49 : decode cX0_letSpeak 49 = .ok (.aload_n 0, 1) := by decide +kernel
theorem dX0_letSpeak_50 : decode cX0_letSpeak 50 = .ok (.getfield 71, 3) := by decide +kernel
theorem dX0_letSpeak_53 : decode cX0_letSpeak 53 = .ok (.iload 4, 2) := by decide +kernel
theorem dX0_letSpeak_55 : decode cX0_letSpeak 55 = .ok (.iastore, 1) := by decide +kernel
theorem dX0_letSpeak_56 : decode cX0_letSpeak 56 = .ok (.aload_n 0, 1) := by decide +kernel
theorem dX0_letSpeak_57 : decode cX0_letSpeak 57 = .ok (.dup, 1) := by decide +kernel
theorem dX0_letSpeak_58 : decode cX0_letSpeak 58 = .ok (.getfield 71, 3) := by decide +kernel
theorem dX0_letSpeak_61 : decode cX0_letSpeak 61 = .ok (.iconst 1, 1) := by decide +kernel
theorem dX0_letSpeak_62 : decode cX0_letSpeak 62 = .ok (.iadd, 1) := by decide +kernel
theorem dX0_letSpeak_63 : decode cX0_letSpeak 63 = .ok (.putfield 71, 3) := by decide +kernel
theorem dX0_letSpeak_66 : decode cX0_letSpeak 66 = .ok (.iinc 3 1, 3) := by decide +kernel
theorem dX0_letSpeak_69 : decode cX0_letSpeak 69 = .ok (.goto (-62), 3) := by decide +kernel
theorem dX0_letSpeak_72 : decode cX0_letSpeak 72 = .ok (.return_, 1) := by decide +kernel
theorem dX0_burn_0 : decode cX0_burn 0 = .ok (.aload_n 0, 1) := by decide +kernel
theorem dX0_burn_1 : decode cX0_burn 1 = .ok (.iconst 0, 1) := by decide +kernel
theorem dX0_burn_2 : decode cX0_burn 2 = .ok (.putfield 77, 3) := by decide +kernel
theorem dX0_burn_5 : decode cX0_burn 5 = .ok (.aload_n 0, 1) := by decide +kernel
theorem dX0_burn_6 : decode cX0_burn 6 = .ok (.getfield 24, 3) := by decide +kernel
theorem dX0_burn_9 : decode cX0_burn 9 = .ok (.iconst 0, 1) := by decide +kernel
theorem dX0_burn_10 : decode cX0_burn 10 = .ok (.iconst 1, 1) := by decide +kernel
theorem dX0_burn_11 : decode cX0_burn 11 = .ok (.iload_n 1, 1) := by decide +kernel
theorem dX0_burn_12 : decode cX0_burn 12 = .ok (.ishl, 1) := by decide +kernel
theorem dX0_burn_13 : decode cX0_burn 13 = .ok (.iastore, 1) := by decide +kernel
theorem dX0_burn_14 : decode cX0_burn 14 = .ok (.aload_n 0, 1) := by decide +kernel
theorem dX0_burn_15 : decode cX0_burn 15 = .ok (.getfield 27, 3) := by decide +kernel
theorem dX0_burn_18 : decode cX0_burn 18 = .ok (.iconst 0, 1) := by decide +kernel
theorem dX0_burn_19 : decode cX0_burn 19 = .ok (.aload_n 0, 1) := by decide +kernel
theorem dX0_burn_20 : decode cX0_burn 20 = .ok (.getfield 24, 3) := by decide +kernel
theorem dX0_burn_23 : decode cX0_burn 23 = .ok (.iconst 0, 1) := by decide +kernel
theorem dX0_burn_24 : decode cX0_burn 24 = .ok (.iaload, 1) := by decide +kernel
theorem dX0_burn_25 : decode cX0_burn 25 = .ok (.iastore, 1) := by decide +kernel
theorem dX0_burn_26 : decode cX0_burn 26 = .ok (.aload_n 0, 1) := by decide +kernel
theorem dX0_burn_27 : decode cX0_burn 27 = .ok (.getfield 30, 3) := by decide +kernel
theorem dX0_burn_30 : decode cX0_burn 30 = .ok (.iconst 0, 1) := by decide +kernel
theorem dX0_burn_31 : decode cX0_burn 31 = .ok (.aload_n 0, 1) := by decide +kernel
theorem dX0_burn_32 : decode cX0_burn 32 = .ok (.getfield 27, 3) := by decide +kernel
theorem dX0_burn_35 : decode cX0_burn 35 = .ok (.iconst 0, 1) := by decide +kernel
theorem dX0_burn_36 : decode cX0_burn 36 = .ok (.iaload, 1) := by decide +kernel
theorem dX0_burn_37 : decode cX0_burn 37 = .ok (.invokestatic 80, 3) := by decide +kernel
theorem dX0_burn_40 : decode cX0_burn 40 = .ok (.iastore, 1) := by decide +kernel
theorem dX0_burn_41 : decode cX0_burn 41 = .ok (.aload_n 0, 1) := by decide +kernel
theorem dX0_burn_42 : decode cX0_burn 42 = .ok (.iconst 1, 1) := by decide +kernel
theorem dX0_burn_43 : decode cX0_burn 43 = .ok (.invokevirtual 83, 3) := by decide +kernel
theorem dX0_burn_46 : decode cX0_burn 46 = .ok (.iconst 1, 1) := by decide +kernel
theorem dX0_burn_47 : decode cX0_burn 47 = .ok (.istore_n 3, 1) := by decide +kernel
theorem dX0_burn_48 : decode cX0_burn 48 = .ok (.iload_n 3, 1) := by decide +kernel
theorem dX0_burn_49 : decode cX0_burn 49 = .ok (.bipush 101, 2) := by decide +kernel
theorem dX0_burn_51 : decode cX0_burn 51 = .ok (.if_icmp .ge 62, 3) := by decide +kernel
theorem dX0_burn_54 : decode cX0_burn 54 = .ok (.iload_n 3, 1) := by decide +kernel
theorem dX0_burn_55 : decode cX0_burn 55 = .ok (.aload_n 0, 1) := by decide +kernel
theorem dX0_burn_56 : decode cX0_burn 56 = .ok (.getfield 87, 3) := by decide +kernel
theorem dX0_burn_59 : decode cX0_burn 59 = .ok (.if_icmp .gt 54, 3) := by decide +kernel
theorem dX0_burn_62 : decode cX0_burn 62 = .ok (.iload_n 3, 1) := by decide +kernel
theorem dX0_burn_63 : decode cX0_burn 63 = .ok (.bipush 7, 2) := by decide +kernel
theorem dX0_burn_65 : decode cX0_burn 65 = .ok (.if_icmp .gt 18, 3) := by decide +kernel
theorem dX0_burn_68 : decode cX0_burn 68 = .ok (.iload_n 2, 1) := by decide +kernel
theorem dX0_burn_69 : decode cX0_burn 69 = .ok (.iload_n 3, 1) := by decide +kernel
theorem dX0_burn_70 : decode cX0_burn 70 = .ok (.iconst 1, 1) := by decide +kernel
theorem dX0_burn_71 : decode cX0_burn 71 = .ok (.isub, 1) := by decide +kernel
theorem dX0_burn_72 : decode cX0_burn 72 = .ok (.ishr, 1) := by decide +kernel
theorem dX0_burn_73 : decode cX0_burn 73 = .ok (.iconst 1, 1) := by decide +kernel
theorem dX0_burn_74 : decode cX0_burn 74 = .ok (.iand, 1) := by decide +kernel
theorem dX0_burn_75 : decode cX0_burn 75 = .ok (.iconst 1, 1) := by decide +kernel
theorem dX0_burn_76 : decode cX0_burn 76 = .ok (.if_icmp .ne 7, 3) := by decide +kernel
theorem dX0_burn_79 : decode cX0_burn 79 = .ok (.iconst 1, 1) := by decide +kernel
theorem dX0_burn_80 : decode cX0_burn 80 = .ok (.goto 4, 3) := by decide +kernel
theorem dX0_burn_83 : decode cX0_burn 83 = .ok (.iconst 0, 1) := by decide +kernel
theorem dX0_burn_84 : decode cX0_burn 84 = .ok (.istore 4, 2) := by decide +kernel
theorem dX0_burn_86 : decode cX0_burn 86 = .ok (.aload_n 0, 1) := by decide +kernel
theorem dX0_burn_87 : decode cX0_burn 87 = .ok (.getfield 33, 3) := by decide +kernel
theorem dX0_burn_90 : decode cX0_burn 90 = .ok (.iload_n 3, 1) := by decide +kernel
theorem dX0_burn_91 : decode cX0_burn 91 = .ok (.iload 4, 2) := by decide +kernel
theorem dX0_burn_93 : decode cX0_burn 93 = .ok (.ifCond .eq 8, 3) := by decide +kernel
theorem dX0_burn_96 : decode cX0_burn 96 = .ok (.bipush (-9), 2) := by decide +kernel
theorem dX0_burn_98 : decode cX0_burn 98 = .ok (.goto 8, 3) := by decide +kernel
theorem dX0_burn_101 : decode cX0_burn 101 = .ok (.aload_n 0, 1) := by decide +kernel
theorem dX0_burn_102 : decode cX0_burn 102 = .ok (.iload_n 3, 1) := by decide +kernel
theorem dX0_burn_103 : decode cX0_burn 103 = .ok (.invokevirtual 90, 3) := by decide +kernel
theorem dX0_burn_106 : decode cX0_burn 106 = .ok (.iastore, 1) := by decide +kernel
theorem dX0_burn_107 : decode cX0_burn 107 = .ok (.iinc 3 1, 3) := by decide +kernel
theorem dX0_burn_110 : decode cX0_burn 110 = .ok (.goto (-62), 3) := by decide +kernel
theorem dX0_burn_113 : decode cX0_burn 113 = .ok (.aload_n 0, 1) := by decide +kernel
theorem dX0_burn_114 : decode cX0_burn 114 = .ok (.iload_n 3, 1) := by decide +kernel
theorem dX0_burn_115 : decode cX0_burn 115 = .ok (.iconst 1, 1) := by decide +kernel
theorem dX0_burn_116 : decode cX0_burn 116 = .ok (.isub, 1) := by decide +kernel
theorem dX0_burn_117 : decode cX0_burn 117 = .ok (.putfield 93, 3) := by decide +kernel
theorem dX0_burn_120 : decode cX0_burn 120 = .ok (.return_, 1) := by decide +kernel
theorem dX0_speak_0 : decode cX0_speak 0 = .ok (.aload_n 0, 1) := by decide +kernel
theorem dX0_speak_1 : decode cX0_speak 1 = .ok (.aload_n 0, 1) := by decide +kernel
theorem dX0_speak_2 : decode cX0_speak 2 = .ok (.iload_n 1, 1) := by decide +kernel
theorem dX0_speak_3 : decode cX0_speak 3 = .ok (.invokevirtual 96, 3) := by decide +kernel
theorem dX0_speak_6 : decode cX0_speak 6 = .ok (.invokevirtual 99, 3) := by decide +kernel
theorem dX0_speak_9 : decode cX0_speak 9 = .ok (.istore_n 2, 1) := by decide +kernel
theorem dX0_speak_10 : decode cX0_speak 10 = .ok (.iload_n 1, 1) := by decide +kernel
theorem dX0_speak_11 : decode cX0_speak 11 = .ok (.istore_n 3, 1) := by decide +kernel
theorem dX0_speak_12 : decode cX0_speak 12 = .ok (.iload_n 3, 1) := by decide +kernel
theorem dX0_speak_13 : decode cX0_speak 13 = .ok (.aload_n 0, 1) := by decide +kernel
theorem dX0_speak_14 : decode cX0_speak 14 = .ok (.getfield 87, 3) := by decide +kernel
theorem dX0_speak_17 : decode cX0_speak 17 = .ok (.if_icmp .gt 57, 3) := by decide +kernel
theorem dX0_speak_20 : decode cX0_speak 20 = .ok (.iload_n 3, 1) := by decide +kernel
theorem dX0_speak_21 : decode cX0_speak 21 = .ok (.bipush 101, 2) := by decide +kernel
theorem dX0_speak_23 : decode cX0_speak 23 = .ok (.if_icmp .ge 51, 3) := by decide +kernel
theorem dX0_speak_26 : decode cX0_speak 26 = .ok (.aload_n 0, 1) := by decide +kernel
theorem dX0_speak_27 : decode cX0_speak 27 = .ok (.aload_n 0, 1) := by decide +kernel
theorem dX0_speak_28 : decode cX0_speak 28 = .ok (.getfield 24, 3) := by decide +kernel
theorem dX0_speak_31 : decode cX0_speak 31 = .ok (.iload_n 3, 1) := by decide +kernel
theorem dX0_speak_32 : decode cX0_speak 32 = .ok (.iaload, 1) := by decide +kernel
theorem dX0_speak_33 : decode cX0_speak 33 = .ok (.iload_n 2, 1) := by decide +kernel
theorem dX0_speak_34 : decode cX0_speak 34 = .ok (.iand, 1) := by decide +kernel
theorem dX0_speak_35 : decode cX0_speak 35 = .ok (.invokevirtual 102, 3) := by decide +kernel
theorem dX0_speak_38 : decode cX0_speak 38 = .ok (.istore 4, 2) := by decide +kernel
theorem dX0_speak_40 : decode cX0_speak 40 = .ok (.iload 4, 2) := by decide +kernel
theorem dX0_speak_42 : decode cX0_speak 42 = .ok (.bipush (-9), 2) := by decide +kernel
theorem dX0_speak_44 : decode cX0_speak 44 = .ok (.if_icmp .eq 24, 3) := by decide +kernel
theorem dX0_speak_47 : decode cX0_speak 47 = .ok (.aload_n 0, 1) := by decide +kernel
theorem dX0_speak_48 : decode cX0_speak 48 = .ok (.dup, 1) := by decide +kernel
theorem dX0_speak_49 : decode cX0_speak 49 = .ok (.getfield 77, 3) := by decide +kernel
theorem dX0_speak_52 : decode cX0_speak 52 = .ok (.iconst 1, 1) := by decide +kernel
theorem dX0_speak_53 : decode cX0_speak 53 = .ok (.iload 4, 2) := by decide +kernel
theorem dX0_speak_55 : decode cX0_speak 55 = .ok (.ishl, 1) := by decide +kernel
theorem dX0_speak_56 : decode cX0_speak 56 = .ok (.ior, 1) := by decide +kernel
theorem dX0_speak_57 : decode cX0_speak 57 = .ok (.putfield 77, 3) := by decide +kernel
theorem dX0_speak_60 : decode cX0_speak 60 = .ok (.aload_n 0, 1) := by decide +kernel
theorem dX0_speak_61 : decode cX0_speak 61 = .ok (.iload_n 3, 1) := by decide +kernel
theorem dX0_speak_62 : decode cX0_speak 62 = .ok (.invokevirtual 83, 3) := by decide +kernel
theorem dX0_speak_65 : decode cX0_speak 65 = .ok (.iload 4, 2) := by decide +kernel
theorem dX0_speak_67 : decode cX0_speak 67 = .ok (.ireturn, 1) := by decide +kernel
theorem dX0_speak_68 : decode cX0_speak 68 = .ok (.iinc 3 1, 3) := by decide +kernel
theorem dX0_speak_71 : decode cX0_speak 71 = .ok (.goto (-59), 3) := by decide +kernel
theorem dX0_speak_74 : decode cX0_speak 74 = .ok (.bipush (-9), 2) := by decide +kernel
theorem dX0_speak_76 : decode cX0_speak 76 = .ok (.ireturn, 1) := by decide +kernel
theorem dX0_sayableBy_0 : decode cX0_sayableBy 0 = .ok (.iload_n 1, 1) := by decide +kernel
theorem dX0_sayableBy_1 : decode cX0_sayableBy 1 = .ok (.ifCond .lt 20, 3) := by decide +kernel
theorem dX0_sayableBy_4 : decode cX0_sayableBy 4 = .ok (.iload_n 1, 1) := by decide +kernel
theorem dX0_sayableBy_5 : decode cX0_sayableBy 5 = .ok (.aload_n 0, 1) := by decide +kernel
theorem dX0_sayableBy_6 : decode cX0_sayableBy 6 = .ok (.getfield 63, 3) := by decide +kernel
theorem dX0_sayableBy_9 : decode cX0_sayableBy 9 = .ok (.if_icmp .ge 12, 3) := by decide +kernel
theorem dX0_sayableBy_12 : decode cX0_sayableBy 12 = .ok (.aload_n 0, 1) := by decide +kernel
theorem dX0_sayableBy_13 : decode cX0_sayableBy 13 = .ok (.getfield 18, 3) := by decide +kernel
theorem dX0_sayableBy_16 : decode cX0_sayableBy 16 = .ok (.iload_n 1, 1) := by decide +kernel
theorem dX0_sayableBy_17 : decode cX0_sayableBy 17 = .ok (.iaload, 1) := by decide +kernel
theorem dX0_sayableBy_18 : decode cX0_sayableBy 18 = .ok (.goto 4, 3) := by decide +kernel
theorem dX0_sayableBy_21 : decode cX0_sayableBy 21 = .ok (.iconst 0, 1) := by decide +kernel
theorem dX0_sayableBy_22 : decode cX0_sayableBy 22 = .ok (.ireturn, 1) := by decide +kernel
theorem dX0_dearest_0 : decode cX0_dearest 0 = .ok (.bipush (-9), 2) := by decide +kernel
theorem dX0_dearest_2 : decode cX0_dearest 2 = .ok (.istore_n 2, 1) := by decide +kernel
theorem dX0_dearest_3 : decode cX0_dearest 3 = .ok (.iconst (-1), 1) := by decide +kernel
theorem dX0_dearest_4 : decode cX0_dearest 4 = .ok (.istore_n 3, 1) := by decide +kernel
theorem dX0_dearest_5 : decode cX0_dearest 5 = .ok (.iconst 0, 1) := by decide +kernel
theorem dX0_dearest_6 : decode cX0_dearest 6 = .ok (.istore 4, 2) := by decide +kernel
theorem dX0_dearest_8 : decode cX0_dearest 8 = .ok (.iload 4, 2) := by decide +kernel
theorem dX0_dearest_10 : decode cX0_dearest 10 = .ok (.bipush 25, 2) := by decide +kernel
theorem dX0_dearest_12 : decode cX0_dearest 12 = .ok (.if_icmp .ge 48, 3) := by decide +kernel
theorem dX0_dearest_15 : decode cX0_dearest 15 = .ok (.iload_n 1, 1) := by decide +kernel
theorem dX0_dearest_16 : decode cX0_dearest 16 = .ok (.iload 4, 2) := by decide +kernel
theorem dX0_dearest_18 : decode cX0_dearest 18 = .ok (.ishr, 1) := by decide +kernel
theorem dX0_dearest_19 : decode cX0_dearest 19 = .ok (.ifCond .eq 41, 3) := by decide +kernel
theorem dX0_dearest_22 : decode cX0_dearest 22 = .ok (.iload_n 1, 1) := by decide +kernel
theorem dX0_dearest_23 : decode cX0_dearest 23 = .ok (.iload 4, 2) := by decide +kernel
theorem dX0_dearest_25 : decode cX0_dearest 25 = .ok (.ishr, 1) := by decide +kernel
theorem dX0_dearest_26 : decode cX0_dearest 26 = .ok (.iconst 1, 1) := by decide +kernel
theorem dX0_dearest_27 : decode cX0_dearest 27 = .ok (.iand, 1) := by decide +kernel
theorem dX0_dearest_28 : decode cX0_dearest 28 = .ok (.iconst 1, 1) := by decide +kernel
theorem dX0_dearest_29 : decode cX0_dearest 29 = .ok (.if_icmp .ne 25, 3) := by decide +kernel
theorem dX0_dearest_32 : decode cX0_dearest 32 = .ok (.aload_n 0, 1) := by decide +kernel
theorem dX0_dearest_33 : decode cX0_dearest 33 = .ok (.getfield 15, 3) := by decide +kernel
theorem dX0_dearest_36 : decode cX0_dearest 36 = .ok (.iload 4, 2) := by decide +kernel
theorem dX0_dearest_38 : decode cX0_dearest 38 = .ok (.iaload, 1) := by decide +kernel
theorem dX0_dearest_39 : decode cX0_dearest 39 = .ok (.iload_n 3, 1) := by decide +kernel
theorem dX0_dearest_40 : decode cX0_dearest 40 = .ok (.if_icmp .le 14, 3) := by decide +kernel
theorem dX0_dearest_43 : decode cX0_dearest 43 = .ok (.aload_n 0, 1) := by decide +kernel
theorem dX0_dearest_44 : decode cX0_dearest 44 = .ok (.getfield 15, 3) := by decide +kernel
theorem dX0_dearest_47 : decode cX0_dearest 47 = .ok (.iload 4, 2) := by decide +kernel
theorem dX0_dearest_49 : decode cX0_dearest 49 = .ok (.iaload, 1) := by decide +kernel
theorem dX0_dearest_50 : decode cX0_dearest 50 = .ok (.istore_n 3, 1) := by decide +kernel
theorem dX0_dearest_51 : decode cX0_dearest 51 = .ok (.iload 4, 2) := by decide +kernel
theorem dX0_dearest_53 : decode cX0_dearest 53 = .ok (.istore_n 2, 1) := by decide +kernel
theorem dX0_dearest_54 : decode cX0_dearest 54 = .ok (.iinc 4 1, 3) := by decide +kernel
theorem dX0_dearest_57 : decode cX0_dearest 57 = .ok (.goto (-49), 3) := by decide +kernel
theorem dX0_dearest_60 : decode cX0_dearest 60 = .ok (.iload_n 2, 1) := by decide +kernel
theorem dX0_dearest_61 : decode cX0_dearest 61 = .ok (.ireturn, 1) := by decide +kernel
theorem dX0_spreadFrom_0 : decode cX0_spreadFrom 0 = .ok (.iload_n 1, 1) := by decide +kernel
theorem dX0_spreadFrom_1 : decode cX0_spreadFrom 1 = .ok (.iconst 1, 1) := by decide +kernel
theorem dX0_spreadFrom_2 : decode cX0_spreadFrom 2 = .ok (.if_icmp .lt 9, 3) := by decide +kernel
theorem dX0_spreadFrom_5 : decode cX0_spreadFrom 5 = .ok (.iload_n 1, 1) := by decide +kernel
theorem dX0_spreadFrom_6 : decode cX0_spreadFrom 6 = .ok (.bipush 101, 2) := by decide +kernel
theorem dX0_spreadFrom_8 : decode cX0_spreadFrom 8 = .ok (.if_icmp .lt 4, 3) := by decide +kernel
theorem dX0_spreadFrom_11 : decode cX0_spreadFrom 11 = .ok (.return_, 1) := by decide +kernel
theorem dX0_spreadFrom_12 : decode cX0_spreadFrom 12 = .ok (.aload_n 0, 1) := by decide +kernel
theorem dX0_spreadFrom_13 : decode cX0_spreadFrom 13 = .ok (.iload_n 1, 1) := by decide +kernel
theorem dX0_spreadFrom_14 : decode cX0_spreadFrom 14 = .ok (.iconst 1, 1) := by decide +kernel
theorem dX0_spreadFrom_15 : decode cX0_spreadFrom 15 = .ok (.isub, 1) := by decide +kernel
theorem dX0_spreadFrom_16 : decode cX0_spreadFrom 16 = .ok (.putfield 87, 3) := by decide +kernel
theorem dX0_spreadFrom_19 : decode cX0_spreadFrom 19 = .ok (.aload_n 0, 1) := by decide +kernel
theorem dX0_spreadFrom_20 : decode cX0_spreadFrom 20 = .ok (.getfield 87, 3) := by decide +kernel
theorem dX0_spreadFrom_23 : decode cX0_spreadFrom 23 = .ok (.ifCond .le 28, 3) := by decide +kernel
theorem dX0_spreadFrom_26 : decode cX0_spreadFrom 26 = .ok (.aload_n 0, 1) := by decide +kernel
theorem dX0_spreadFrom_27 : decode cX0_spreadFrom 27 = .ok (.getfield 24, 3) := by decide +kernel
theorem dX0_spreadFrom_30 : decode cX0_spreadFrom 30 = .ok (.aload_n 0, 1) := by decide +kernel
theorem dX0_spreadFrom_31 : decode cX0_spreadFrom 31 = .ok (.getfield 87, 3) := by decide +kernel
theorem dX0_spreadFrom_34 : decode cX0_spreadFrom 34 = .ok (.iaload, 1) := by decide +kernel
theorem dX0_spreadFrom_35 : decode cX0_spreadFrom 35 = .ok (.ifCond .ne 16, 3) := by decide +kernel
theorem dX0_spreadFrom_38 : decode cX0_spreadFrom 38 = .ok (.aload_n 0, 1) := by decide +kernel
theorem dX0_spreadFrom_39 : decode cX0_spreadFrom 39 = .ok (.dup, 1) := by decide +kernel
theorem dX0_spreadFrom_40 : decode cX0_spreadFrom 40 = .ok (.getfield 87, 3) := by decide +kernel
theorem dX0_spreadFrom_43 : decode cX0_spreadFrom 43 = .ok (.iconst 1, 1) := by decide +kernel
theorem dX0_spreadFrom_44 : decode cX0_spreadFrom 44 = .ok (.isub, 1) := by decide +kernel
theorem dX0_spreadFrom_45 : decode cX0_spreadFrom 45 = .ok (.putfield 87, 3) := by decide +kernel
theorem dX0_spreadFrom_48 : decode cX0_spreadFrom 48 = .ok (.goto (-29), 3) := by decide +kernel
theorem dX0_spreadFrom_51 : decode cX0_spreadFrom 51 = .ok (.iload_n 1, 1) := by decide +kernel
theorem dX0_spreadFrom_52 : decode cX0_spreadFrom 52 = .ok (.istore_n 2, 1) := by decide +kernel
theorem dX0_spreadFrom_53 : decode cX0_spreadFrom 53 = .ok (.iload_n 2, 1) := by decide +kernel
theorem dX0_spreadFrom_54 : decode cX0_spreadFrom 54 = .ok (.bipush 101, 2) := by decide +kernel
theorem dX0_spreadFrom_56 : decode cX0_spreadFrom 56 = .ok (.if_icmp .ge 90, 3) := by decide +kernel
theorem dX0_spreadFrom_59 : decode cX0_spreadFrom 59 = .ok (.iload_n 2, 1) := by decide +kernel
theorem dX0_spreadFrom_60 : decode cX0_spreadFrom 60 = .ok (.aload_n 0, 1) := by decide +kernel
theorem dX0_spreadFrom_61 : decode cX0_spreadFrom 61 = .ok (.getfield 87, 3) := by decide +kernel
theorem dX0_spreadFrom_64 : decode cX0_spreadFrom 64 = .ok (.iconst 4, 1) := by decide +kernel
theorem dX0_spreadFrom_65 : decode cX0_spreadFrom 65 = .ok (.iadd, 1) := by decide +kernel
theorem dX0_spreadFrom_66 : decode cX0_spreadFrom 66 = .ok (.if_icmp .gt 80, 3) := by decide +kernel
theorem dX0_spreadFrom_69 : decode cX0_spreadFrom 69 = .ok (.aload_n 0, 1) := by decide +kernel
theorem dX0_spreadFrom_70 : decode cX0_spreadFrom 70 = .ok (.iload_n 2, 1) := by decide +kernel
theorem dX0_spreadFrom_71 : decode cX0_spreadFrom 71 = .ok (.invokevirtual 105, 3) := by decide +kernel
theorem dX0_spreadFrom_74 : decode cX0_spreadFrom 74 = .ok (.aload_n 0, 1) := by decide +kernel
theorem dX0_spreadFrom_75 : decode cX0_spreadFrom 75 = .ok (.getfield 27, 3) := by decide +kernel
theorem dX0_spreadFrom_78 : decode cX0_spreadFrom 78 = .ok (.iload_n 2, 1) := by decide +kernel
theorem dX0_spreadFrom_79 : decode cX0_spreadFrom 79 = .ok (.iconst 1, 1) := by decide +kernel
theorem dX0_spreadFrom_80 : decode cX0_spreadFrom 80 = .ok (.isub, 1) := by decide +kernel
theorem dX0_spreadFrom_81 : decode cX0_spreadFrom 81 = .ok (.iaload, 1) := by decide +kernel
theorem dX0_spreadFrom_82 : decode cX0_spreadFrom 82 = .ok (.iconst (-1), 1) := by decide +kernel
theorem dX0_spreadFrom_83 : decode cX0_spreadFrom 83 = .ok (.ixor, 1) := by decide +kernel
theorem dX0_spreadFrom_84 : decode cX0_spreadFrom 84 = .ok (.iand, 1) := by decide +kernel
theorem dX0_spreadFrom_85 : decode cX0_spreadFrom 85 = .ok (.aload_n 0, 1) := by decide +kernel
theorem dX0_spreadFrom_86 : decode cX0_spreadFrom 86 = .ok (.getfield 77, 3) := by decide +kernel
theorem dX0_spreadFrom_89 : decode cX0_spreadFrom 89 = .ok (.iconst (-1), 1) := by decide +kernel
theorem dX0_spreadFrom_90 : decode cX0_spreadFrom 90 = .ok (.ixor, 1) := by decide +kernel
theorem dX0_spreadFrom_91 : decode cX0_spreadFrom 91 = .ok (.iand, 1) := by decide +kernel
theorem dX0_spreadFrom_92 : decode cX0_spreadFrom 92 = .ok (.istore_n 3, 1) := by decide +kernel
theorem dX0_spreadFrom_93 : decode cX0_spreadFrom 93 = .ok (.aload_n 0, 1) := by decide +kernel
theorem dX0_spreadFrom_94 : decode cX0_spreadFrom 94 = .ok (.getfield 24, 3) := by decide +kernel
theorem dX0_spreadFrom_97 : decode cX0_spreadFrom 97 = .ok (.iload_n 2, 1) := by decide +kernel
theorem dX0_spreadFrom_98 : decode cX0_spreadFrom 98 = .ok (.iload_n 3, 1) := by decide +kernel
theorem dX0_spreadFrom_99 : decode cX0_spreadFrom 99 = .ok (.iastore, 1) := by decide +kernel
theorem dX0_spreadFrom_100 : decode cX0_spreadFrom 100 = .ok (.aload_n 0, 1) := by decide +kernel
theorem dX0_spreadFrom_101 : decode cX0_spreadFrom 101 = .ok (.getfield 27, 3) := by decide +kernel
theorem dX0_spreadFrom_104 : decode cX0_spreadFrom 104 = .ok (.iload_n 2, 1) := by decide +kernel
theorem dX0_spreadFrom_105 : decode cX0_spreadFrom 105 = .ok (.aload_n 0, 1) := by decide +kernel
theorem dX0_spreadFrom_106 : decode cX0_spreadFrom 106 = .ok (.getfield 27, 3) := by decide +kernel
theorem dX0_spreadFrom_109 : decode cX0_spreadFrom 109 = .ok (.iload_n 2, 1) := by decide +kernel
theorem dX0_spreadFrom_110 : decode cX0_spreadFrom 110 = .ok (.iconst 1, 1) := by decide +kernel
theorem dX0_spreadFrom_111 : decode cX0_spreadFrom 111 = .ok (.isub, 1) := by decide +kernel
theorem dX0_spreadFrom_112 : decode cX0_spreadFrom 112 = .ok (.iaload, 1) := by decide +kernel
theorem dX0_spreadFrom_113 : decode cX0_spreadFrom 113 = .ok (.iload_n 3, 1) := by decide +kernel
theorem dX0_spreadFrom_114 : decode cX0_spreadFrom 114 = .ok (.ior, 1) := by decide +kernel
theorem dX0_spreadFrom_115 : decode cX0_spreadFrom 115 = .ok (.iastore, 1) := by decide +kernel
theorem dX0_spreadFrom_116 : decode cX0_spreadFrom 116 = .ok (.aload_n 0, 1) := by decide +kernel
theorem dX0_spreadFrom_117 : decode cX0_spreadFrom 117 = .ok (.getfield 30, 3) := by decide +kernel
theorem dX0_spreadFrom_120 : decode cX0_spreadFrom 120 = .ok (.iload_n 2, 1) := by decide +kernel
theorem dX0_spreadFrom_121 : decode cX0_spreadFrom 121 = .ok (.aload_n 0, 1) := by decide +kernel
theorem dX0_spreadFrom_122 : decode cX0_spreadFrom 122 = .ok (.getfield 27, 3) := by decide +kernel
theorem dX0_spreadFrom_125 : decode cX0_spreadFrom 125 = .ok (.iload_n 2, 1) := by decide +kernel
theorem dX0_spreadFrom_126 : decode cX0_spreadFrom 126 = .ok (.iaload, 1) := by decide +kernel
theorem dX0_spreadFrom_127 : decode cX0_spreadFrom 127 = .ok (.invokestatic 80, 3) := by decide +kernel
theorem dX0_spreadFrom_130 : decode cX0_spreadFrom 130 = .ok (.iastore, 1) := by decide +kernel
theorem dX0_spreadFrom_131 : decode cX0_spreadFrom 131 = .ok (.iload_n 3, 1) := by decide +kernel
theorem dX0_spreadFrom_132 : decode cX0_spreadFrom 132 = .ok (.ifCond .eq 8, 3) := by decide +kernel
theorem dX0_spreadFrom_135 : decode cX0_spreadFrom 135 = .ok (.aload_n 0, 1) := by decide +kernel
theorem dX0_spreadFrom_136 : decode cX0_spreadFrom 136 = .ok (.iload_n 2, 1) := by decide +kernel
theorem dX0_spreadFrom_137 : decode cX0_spreadFrom 137 = .ok (.putfield 87, 3) := by decide +kernel
theorem dX0_spreadFrom_140 : decode cX0_spreadFrom 140 = .ok (.iinc 2 1, 3) := by decide +kernel
theorem dX0_spreadFrom_143 : decode cX0_spreadFrom 143 = .ok (.goto (-90), 3) := by decide +kernel
theorem dX0_spreadFrom_146 : decode cX0_spreadFrom 146 = .ok (.return_, 1) := by decide +kernel
theorem dX0_caughtIn_0 : decode cX0_caughtIn 0 = .ok (.iconst 0, 1) := by decide +kernel
theorem dX0_caughtIn_1 : decode cX0_caughtIn 1 = .ok (.istore_n 2, 1) := by decide +kernel
theorem dX0_caughtIn_2 : decode cX0_caughtIn 2 = .ok (.iconst 1, 1) := by decide +kernel
theorem dX0_caughtIn_3 : decode cX0_caughtIn 3 = .ok (.istore_n 3, 1) := by decide +kernel
theorem dX0_caughtIn_4 : decode cX0_caughtIn 4 = .ok (.iload_n 3, 1) := by decide +kernel
theorem dX0_caughtIn_5 : decode cX0_caughtIn 5 = .ok (.iconst 4, 1) := by decide +kernel
theorem dX0_caughtIn_6 : decode cX0_caughtIn 6 = .ok (.if_icmp .gt 40, 3) := by decide +kernel
theorem dX0_caughtIn_9 : decode cX0_caughtIn 9 = .ok (.iload_n 1, 1) := by decide +kernel
theorem dX0_caughtIn_10 : decode cX0_caughtIn 10 = .ok (.iload_n 3, 1) := by decide +kernel
theorem dX0_caughtIn_11 : decode cX0_caughtIn 11 = .ok (.if_icmp .lt 29, 3) := by decide +kernel
theorem dX0_caughtIn_14 : decode cX0_caughtIn 14 = .ok (.iload_n 1, 1) := by decide +kernel
theorem dX0_caughtIn_15 : decode cX0_caughtIn 15 = .ok (.iload_n 3, 1) := by decide +kernel
theorem dX0_caughtIn_16 : decode cX0_caughtIn 16 = .ok (.isub, 1) := by decide +kernel
theorem dX0_caughtIn_17 : decode cX0_caughtIn 17 = .ok (.bipush 101, 2) := by decide +kernel
theorem dX0_caughtIn_19 : decode cX0_caughtIn 19 = .ok (.if_icmp .ge 21, 3) := by decide +kernel
theorem dX0_caughtIn_22 : decode cX0_caughtIn 22 = .ok (.iload_n 2, 1) := by decide +kernel
theorem dX0_caughtIn_23 : decode cX0_caughtIn 23 = .ok (.aload_n 0, 1) := by decide +kernel
theorem dX0_caughtIn_24 : decode cX0_caughtIn 24 = .ok (.getfield 11, 3) := by decide +kernel
theorem dX0_caughtIn_27 : decode cX0_caughtIn 27 = .ok (.iload_n 3, 1) := by decide +kernel
theorem dX0_caughtIn_28 : decode cX0_caughtIn 28 = .ok (.iaload, 1) := by decide +kernel
theorem dX0_caughtIn_29 : decode cX0_caughtIn 29 = .ok (.aload_n 0, 1) := by decide +kernel
theorem dX0_caughtIn_30 : decode cX0_caughtIn 30 = .ok (.getfield 30, 3) := by decide +kernel
theorem dX0_caughtIn_33 : decode cX0_caughtIn 33 = .ok (.iload_n 1, 1) := by decide +kernel
theorem dX0_caughtIn_34 : decode cX0_caughtIn 34 = .ok (.iload_n 3, 1) := by decide +kernel
theorem dX0_caughtIn_35 : decode cX0_caughtIn 35 = .ok (.isub, 1) := by decide +kernel
theorem dX0_caughtIn_36 : decode cX0_caughtIn 36 = .ok (.iaload, 1) := by decide +kernel
theorem dX0_caughtIn_37 : decode cX0_caughtIn 37 = .ok (.iand, 1) := by decide +kernel
theorem dX0_caughtIn_38 : decode cX0_caughtIn 38 = .ok (.ior, 1) := by decide +kernel
theorem dX0_caughtIn_39 : decode cX0_caughtIn 39 = .ok (.istore_n 2, 1) := by decide +kernel
theorem dX0_caughtIn_40 : decode cX0_caughtIn 40 = .ok (.iinc 3 1, 3) := by decide +kernel
theorem dX0_caughtIn_43 : decode cX0_caughtIn 43 = .ok (.goto (-39), 3) := by decide +kernel
theorem dX0_caughtIn_46 : decode cX0_caughtIn 46 = .ok (.iload_n 2, 1) := by decide +kernel
theorem dX0_caughtIn_47 : decode cX0_caughtIn 47 = .ok (.ireturn, 1) := by decide +kernel
theorem dX0_isMinute_0 : decode cX0_isMinute 0 = .ok (.iload_n 0, 1) := by decide +kernel
theorem dX0_isMinute_1 : decode cX0_isMinute 1 = .ok (.ifCond .lt 13, 3) := by decide +kernel
theorem dX0_isMinute_4 : decode cX0_isMinute 4 = .ok (.iload_n 0, 1) := by decide +kernel
theorem dX0_isMinute_5 : decode cX0_isMinute 5 = .ok (.bipush 101, 2) := by decide +kernel
theorem dX0_isMinute_7 : decode cX0_isMinute 7 = .ok (.if_icmp .ge 7, 3) := by decide +kernel
theorem dX0_isMinute_10 : decode cX0_isMinute 10 = .ok (.iconst 1, 1) := by decide +kernel
theorem dX0_isMinute_11 : decode cX0_isMinute 11 = .ok (.goto 4, 3) := by decide +kernel
theorem dX0_isMinute_14 : decode cX0_isMinute 14 = .ok (.iconst 0, 1) := by decide +kernel
theorem dX0_isMinute_15 : decode cX0_isMinute 15 = .ok (.ireturn, 1) := by decide +kernel
theorem dX0_allBeside_0 : decode cX0_allBeside 0 = .ok (.iload_n 0, 1) := by decide +kernel
theorem dX0_allBeside_1 : decode cX0_allBeside 1 = .ok (.ldc 108, 2) := by decide +kernel
theorem dX0_allBeside_3 : decode cX0_allBeside 3 = .ok (.iand, 1) := by decide +kernel
theorem dX0_allBeside_4 : decode cX0_allBeside 4 = .ok (.iconst 1, 1) := by decide +kernel
theorem dX0_allBeside_5 : decode cX0_allBeside 5 = .ok (.ishl, 1) := by decide +kernel
theorem dX0_allBeside_6 : decode cX0_allBeside 6 = .ok (.iload_n 0, 1) := by decide +kernel
theorem dX0_allBeside_7 : decode cX0_allBeside 7 = .ok (.ldc 109, 2) := by decide +kernel
theorem dX0_allBeside_9 : decode cX0_allBeside 9 = .ok (.iand, 1) := by decide +kernel
theorem dX0_allBeside_10 : decode cX0_allBeside 10 = .ok (.iconst 1, 1) := by decide +kernel
theorem dX0_allBeside_11 : decode cX0_allBeside 11 = .ok (.ishr, 1) := by decide +kernel
theorem dX0_allBeside_12 : decode cX0_allBeside 12 = .ok (.ior, 1) := by decide +kernel
theorem dX0_allBeside_13 : decode cX0_allBeside 13 = .ok (.istore_n 1, 1) := by decide +kernel
theorem dX0_allBeside_14 : decode cX0_allBeside 14 = .ok (.iload_n 1, 1) := by decide +kernel
theorem dX0_allBeside_15 : decode cX0_allBeside 15 = .ok (.iload_n 0, 1) := by decide +kernel
theorem dX0_allBeside_16 : decode cX0_allBeside 16 = .ok (.iconst 5, 1) := by decide +kernel
theorem dX0_allBeside_17 : decode cX0_allBeside 17 = .ok (.ishl, 1) := by decide +kernel
theorem dX0_allBeside_18 : decode cX0_allBeside 18 = .ok (.ior, 1) := by decide +kernel
theorem dX0_allBeside_19 : decode cX0_allBeside 19 = .ok (.iload_n 0, 1) := by decide +kernel
theorem dX0_allBeside_20 : decode cX0_allBeside 20 = .ok (.iconst 5, 1) := by decide +kernel
theorem dX0_allBeside_21 : decode cX0_allBeside 21 = .ok (.ishr, 1) := by decide +kernel
theorem dX0_allBeside_22 : decode cX0_allBeside 22 = .ok (.ior, 1) := by decide +kernel
theorem dX0_allBeside_23 : decode cX0_allBeside 23 = .ok (.ldc 110, 2) := by decide +kernel
theorem dX0_allBeside_25 : decode cX0_allBeside 25 = .ok (.iand, 1) := by decide +kernel
theorem dX0_allBeside_26 : decode cX0_allBeside 26 = .ok (.ireturn, 1) := by decide +kernel
theorem dX0_roomsBurnt_0 : decode cX0_roomsBurnt 0 = .ok (.aload_n 0, 1) := by decide +kernel
theorem dX0_roomsBurnt_1 : decode cX0_roomsBurnt 1 = .ok (.invokevirtual 111, 3) := by decide +kernel
theorem dX0_roomsBurnt_4 : decode cX0_roomsBurnt 4 = .ok (.invokestatic 115, 3) := by decide +kernel
theorem dX0_roomsBurnt_7 : decode cX0_roomsBurnt 7 = .ok (.ireturn, 1) := by decide +kernel
theorem dX0_worthBurnt_0 : decode cX0_worthBurnt 0 = .ok (.aload_n 0, 1) := by decide +kernel
theorem dX0_worthBurnt_1 : decode cX0_worthBurnt 1 = .ok (.invokevirtual 111, 3) := by decide +kernel
theorem dX0_worthBurnt_4 : decode cX0_worthBurnt 4 = .ok (.istore_n 1, 1) := by decide +kernel
theorem dX0_worthBurnt_5 : decode cX0_worthBurnt 5 = .ok (.iconst 0, 1) := by decide +kernel
theorem dX0_worthBurnt_6 : decode cX0_worthBurnt 6 = .ok (.istore_n 2, 1) := by decide +kernel
theorem dX0_worthBurnt_7 : decode cX0_worthBurnt 7 = .ok (.iconst 0, 1) := by decide +kernel
theorem dX0_worthBurnt_8 : decode cX0_worthBurnt 8 = .ok (.istore_n 3, 1) := by decide +kernel
theorem dX0_worthBurnt_9 : decode cX0_worthBurnt 9 = .ok (.iload_n 3, 1) := by decide +kernel
theorem dX0_worthBurnt_10 : decode cX0_worthBurnt 10 = .ok (.bipush 25, 2) := by decide +kernel
theorem dX0_worthBurnt_12 : decode cX0_worthBurnt 12 = .ok (.if_icmp .ge 27, 3) := by decide +kernel
theorem dX0_worthBurnt_15 : decode cX0_worthBurnt 15 = .ok (.iload_n 1, 1) := by decide +kernel
theorem dX0_worthBurnt_16 : decode cX0_worthBurnt 16 = .ok (.iload_n 3, 1) := by decide +kernel
theorem dX0_worthBurnt_17 : decode cX0_worthBurnt 17 = .ok (.ishr, 1) := by decide +kernel
theorem dX0_worthBurnt_18 : decode cX0_worthBurnt 18 = .ok (.iconst 1, 1) := by decide +kernel
theorem dX0_worthBurnt_19 : decode cX0_worthBurnt 19 = .ok (.iand, 1) := by decide +kernel
theorem dX0_worthBurnt_20 : decode cX0_worthBurnt 20 = .ok (.iconst 1, 1) := by decide +kernel
theorem dX0_worthBurnt_21 : decode cX0_worthBurnt 21 = .ok (.if_icmp .ne 12, 3) := by decide +kernel
theorem dX0_worthBurnt_24 : decode cX0_worthBurnt 24 = .ok (.iload_n 2, 1) := by decide +kernel
theorem dX0_worthBurnt_25 : decode cX0_worthBurnt 25 = .ok (.aload_n 0, 1) := by decide +kernel
theorem dX0_worthBurnt_26 : decode cX0_worthBurnt 26 = .ok (.getfield 15, 3) := by decide +kernel
theorem dX0_worthBurnt_29 : decode cX0_worthBurnt 29 = .ok (.iload_n 3, 1) := by decide +kernel
theorem dX0_worthBurnt_30 : decode cX0_worthBurnt 30 = .ok (.iaload, 1) := by decide +kernel
theorem dX0_worthBurnt_31 : decode cX0_worthBurnt 31 = .ok (.iadd, 1) := by decide +kernel
theorem dX0_worthBurnt_32 : decode cX0_worthBurnt 32 = .ok (.istore_n 2, 1) := by decide +kernel
theorem dX0_worthBurnt_33 : decode cX0_worthBurnt 33 = .ok (.iinc 3 1, 3) := by decide +kernel
theorem dX0_worthBurnt_36 : decode cX0_worthBurnt 36 = .ok (.goto (-27), 3) := by decide +kernel
theorem dX0_worthBurnt_39 : decode cX0_worthBurnt 39 = .ok (.iload_n 2, 1) := by decide +kernel
theorem dX0_worthBurnt_40 : decode cX0_worthBurnt 40 = .ok (.ireturn, 1) := by decide +kernel
theorem dX0_burnt_0 : decode cX0_burnt 0 = .ok (.aload_n 0, 1) := by decide +kernel
theorem dX0_burnt_1 : decode cX0_burnt 1 = .ok (.getfield 87, 3) := by decide +kernel
theorem dX0_burnt_4 : decode cX0_burnt 4 = .ok (.invokestatic 120, 3) := by decide +kernel
theorem dX0_burnt_7 : decode cX0_burnt 7 = .ok (.ifCond .eq 15, 3) := by decide +kernel
theorem dX0_burnt_10 : decode cX0_burnt 10 = .ok (.aload_n 0, 1) := by decide +kernel
theorem dX0_burnt_11 : decode cX0_burnt 11 = .ok (.getfield 27, 3) := by decide +kernel
theorem dX0_burnt_14 : decode cX0_burnt 14 = .ok (.aload_n 0, 1) := by decide +kernel
theorem dX0_burnt_15 : decode cX0_burnt 15 = .ok (.getfield 87, 3) := by decide +kernel
theorem dX0_burnt_18 : decode cX0_burnt 18 = .ok (.iaload, 1) := by decide +kernel
theorem dX0_burnt_19 : decode cX0_burnt 19 = .ok (.goto 4, 3) := by decide +kernel
theorem dX0_burnt_22 : decode cX0_burnt 22 = .ok (.iconst 0, 1) := by decide +kernel
theorem dX0_burnt_23 : decode cX0_burnt 23 = .ok (.ireturn, 1) := by decide +kernel
theorem dX0_lastMinute_0 : decode cX0_lastMinute 0 = .ok (.aload_n 0, 1) := by decide +kernel
theorem dX0_lastMinute_1 : decode cX0_lastMinute 1 = .ok (.getfield 87, 3) := by decide +kernel
theorem dX0_lastMinute_4 : decode cX0_lastMinute 4 = .ok (.ireturn, 1) := by decide +kernel
theorem dX0_minuteBurnt_0 : decode cX0_minuteBurnt 0 = .ok (.iconst 0, 1) := by decide +kernel
theorem dX0_minuteBurnt_1 : decode cX0_minuteBurnt 1 = .ok (.istore_n 2, 1) := by decide +kernel
theorem dX0_minuteBurnt_2 : decode cX0_minuteBurnt 2 = .ok (.iload_n 2, 1) := by decide +kernel
theorem dX0_minuteBurnt_3 : decode cX0_minuteBurnt 3 = .ok (.bipush 101, 2) := by decide +kernel
theorem dX0_minuteBurnt_5 : decode cX0_minuteBurnt 5 = .ok (.if_icmp .ge 33, 3) := by decide +kernel
theorem dX0_minuteBurnt_8 : decode cX0_minuteBurnt 8 = .ok (.iload_n 2, 1) := by decide +kernel
theorem dX0_minuteBurnt_9 : decode cX0_minuteBurnt 9 = .ok (.aload_n 0, 1) := by decide +kernel
theorem dX0_minuteBurnt_10 : decode cX0_minuteBurnt 10 = .ok (.getfield 87, 3) := by decide +kernel
theorem dX0_minuteBurnt_13 : decode cX0_minuteBurnt 13 = .ok (.if_icmp .gt 25, 3) := by decide +kernel
theorem dX0_minuteBurnt_16 : decode cX0_minuteBurnt 16 = .ok (.aload_n 0, 1) := by decide +kernel
theorem dX0_minuteBurnt_17 : decode cX0_minuteBurnt 17 = .ok (.getfield 24, 3) := by decide +kernel
theorem dX0_minuteBurnt_20 : decode cX0_minuteBurnt 20 = .ok (.iload_n 2, 1) := by decide +kernel
theorem dX0_minuteBurnt_21 : decode cX0_minuteBurnt 21 = .ok (.iaload, 1) := by decide +kernel
theorem dX0_minuteBurnt_22 : decode cX0_minuteBurnt 22 = .ok (.iload_n 1, 1) := by decide +kernel
theorem dX0_minuteBurnt_23 : decode cX0_minuteBurnt 23 = .ok (.ishr, 1) := by decide +kernel
theorem dX0_minuteBurnt_24 : decode cX0_minuteBurnt 24 = .ok (.iconst 1, 1) := by decide +kernel
theorem dX0_minuteBurnt_25 : decode cX0_minuteBurnt 25 = .ok (.iand, 1) := by decide +kernel
theorem dX0_minuteBurnt_26 : decode cX0_minuteBurnt 26 = .ok (.iconst 1, 1) := by decide +kernel
theorem dX0_minuteBurnt_27 : decode cX0_minuteBurnt 27 = .ok (.if_icmp .ne 5, 3) := by decide +kernel
theorem dX0_minuteBurnt_30 : decode cX0_minuteBurnt 30 = .ok (.iload_n 2, 1) := by decide +kernel
theorem dX0_minuteBurnt_31 : decode cX0_minuteBurnt 31 = .ok (.ireturn, 1) := by decide +kernel
theorem dX0_minuteBurnt_32 : decode cX0_minuteBurnt 32 = .ok (.iinc 2 1, 3) := by decide +kernel
theorem dX0_minuteBurnt_35 : decode cX0_minuteBurnt 35 = .ok (.goto (-33), 3) := by decide +kernel
theorem dX0_minuteBurnt_38 : decode cX0_minuteBurnt 38 = .ok (.bipush (-9), 2) := by decide +kernel
theorem dX0_minuteBurnt_40 : decode cX0_minuteBurnt 40 = .ok (.ireturn, 1) := by decide +kernel
theorem dX0_roomSaidIn_0 : decode cX0_roomSaidIn 0 = .ok (.iload_n 1, 1) := by decide +kernel
theorem dX0_roomSaidIn_1 : decode cX0_roomSaidIn 1 = .ok (.iconst 1, 1) := by decide +kernel
theorem dX0_roomSaidIn_2 : decode cX0_roomSaidIn 2 = .ok (.if_icmp .lt 27, 3) := by decide +kernel
theorem dX0_roomSaidIn_5 : decode cX0_roomSaidIn 5 = .ok (.iload_n 1, 1) := by decide +kernel
theorem dX0_roomSaidIn_6 : decode cX0_roomSaidIn 6 = .ok (.aload_n 0, 1) := by decide +kernel
theorem dX0_roomSaidIn_7 : decode cX0_roomSaidIn 7 = .ok (.getfield 93, 3) := by decide +kernel
theorem dX0_roomSaidIn_10 : decode cX0_roomSaidIn 10 = .ok (.if_icmp .gt 19, 3) := by decide +kernel
theorem dX0_roomSaidIn_13 : decode cX0_roomSaidIn 13 = .ok (.iload_n 1, 1) := by decide +kernel
theorem dX0_roomSaidIn_14 : decode cX0_roomSaidIn 14 = .ok (.invokestatic 120, 3) := by decide +kernel
theorem dX0_roomSaidIn_17 : decode cX0_roomSaidIn 17 = .ok (.ifCond .eq 12, 3) := by decide +kernel
theorem dX0_roomSaidIn_20 : decode cX0_roomSaidIn 20 = .ok (.aload_n 0, 1) := by decide +kernel
theorem dX0_roomSaidIn_21 : decode cX0_roomSaidIn 21 = .ok (.getfield 33, 3) := by decide +kernel
theorem dX0_roomSaidIn_24 : decode cX0_roomSaidIn 24 = .ok (.iload_n 1, 1) := by decide +kernel
theorem dX0_roomSaidIn_25 : decode cX0_roomSaidIn 25 = .ok (.iaload, 1) := by decide +kernel
theorem dX0_roomSaidIn_26 : decode cX0_roomSaidIn 26 = .ok (.goto 5, 3) := by decide +kernel
theorem dX0_roomSaidIn_29 : decode cX0_roomSaidIn 29 = .ok (.bipush (-9), 2) := by decide +kernel
theorem dX0_roomSaidIn_31 : decode cX0_roomSaidIn 31 = .ok (.ireturn, 1) := by decide +kernel
theorem dX0_minuteSaid_0 : decode cX0_minuteSaid 0 = .ok (.iconst 1, 1) := by decide +kernel
theorem dX0_minuteSaid_1 : decode cX0_minuteSaid 1 = .ok (.istore_n 2, 1) := by decide +kernel
theorem dX0_minuteSaid_2 : decode cX0_minuteSaid 2 = .ok (.iload_n 2, 1) := by decide +kernel
theorem dX0_minuteSaid_3 : decode cX0_minuteSaid 3 = .ok (.aload_n 0, 1) := by decide +kernel
theorem dX0_minuteSaid_4 : decode cX0_minuteSaid 4 = .ok (.getfield 93, 3) := by decide +kernel
theorem dX0_minuteSaid_7 : decode cX0_minuteSaid 7 = .ok (.if_icmp .gt 20, 3) := by decide +kernel
theorem dX0_minuteSaid_10 : decode cX0_minuteSaid 10 = .ok (.aload_n 0, 1) := by decide +kernel
theorem dX0_minuteSaid_11 : decode cX0_minuteSaid 11 = .ok (.iload_n 2, 1) := by decide +kernel
theorem dX0_minuteSaid_12 : decode cX0_minuteSaid 12 = .ok (.invokevirtual 124, 3) := by decide +kernel
theorem dX0_minuteSaid_15 : decode cX0_minuteSaid 15 = .ok (.iload_n 1, 1) := by decide +kernel
theorem dX0_minuteSaid_16 : decode cX0_minuteSaid 16 = .ok (.if_icmp .ne 5, 3) := by decide +kernel
theorem dX0_minuteSaid_19 : decode cX0_minuteSaid 19 = .ok (.iload_n 2, 1) := by decide +kernel
theorem dX0_minuteSaid_20 : decode cX0_minuteSaid 20 = .ok (.ireturn, 1) := by decide +kernel
theorem dX0_minuteSaid_21 : decode cX0_minuteSaid 21 = .ok (.iinc 2 1, 3) := by decide +kernel
theorem dX0_minuteSaid_24 : decode cX0_minuteSaid 24 = .ok (.goto (-22), 3) := by decide +kernel
theorem dX0_minuteSaid_27 : decode cX0_minuteSaid 27 = .ok (.bipush (-9), 2) := by decide +kernel
theorem dX0_minuteSaid_29 : decode cX0_minuteSaid 29 = .ok (.ireturn, 1) := by decide +kernel
theorem dX0_speakerIn_0 : decode cX0_speakerIn 0 = .ok (.iload_n 1, 1) := by decide +kernel
theorem dX0_speakerIn_1 : decode cX0_speakerIn 1 = .ok (.iconst 1, 1) := by decide +kernel
theorem dX0_speakerIn_2 : decode cX0_speakerIn 2 = .ok (.if_icmp .lt 19, 3) := by decide +kernel
theorem dX0_speakerIn_5 : decode cX0_speakerIn 5 = .ok (.aload_n 0, 1) := by decide +kernel
theorem dX0_speakerIn_6 : decode cX0_speakerIn 6 = .ok (.getfield 71, 3) := by decide +kernel
theorem dX0_speakerIn_9 : decode cX0_speakerIn 9 = .ok (.iconst 1, 1) := by decide +kernel
theorem dX0_speakerIn_10 : decode cX0_speakerIn 10 = .ok (.if_icmp .lt 11, 3) := by decide +kernel
theorem dX0_speakerIn_13 : decode cX0_speakerIn 13 = .ok (.aload_n 0, 1) := by decide +kernel
theorem dX0_speakerIn_14 : decode cX0_speakerIn 14 = .ok (.getfield 71, 3) := by decide +kernel
theorem dX0_speakerIn_17 : decode cX0_speakerIn 17 = .ok (.iconst 5, 1) := by decide +kernel
theorem dX0_speakerIn_18 : decode cX0_speakerIn 18 = .ok (.if_icmp .le 6, 3) := by decide +kernel
theorem dX0_speakerIn_21 : decode cX0_speakerIn 21 = .ok (.bipush (-9), 2) := by decide +kernel
theorem dX0_speakerIn_23 : decode cX0_speakerIn 23 = .ok (.ireturn, 1) := by decide +kernel
theorem dX0_speakerIn_24 : decode cX0_speakerIn 24 = .ok (.aload_n 0, 1) := by decide +kernel
theorem dX0_speakerIn_25 : decode cX0_speakerIn 25 = .ok (.getfield 21, 3) := by decide +kernel
theorem dX0_speakerIn_28 : decode cX0_speakerIn 28 = .ok (.iload_n 1, 1) := by decide +kernel
theorem dX0_speakerIn_29 : decode cX0_speakerIn 29 = .ok (.iconst 1, 1) := by decide +kernel
theorem dX0_speakerIn_30 : decode cX0_speakerIn 30 = .ok (.isub, 1) := by decide +kernel
theorem dX0_speakerIn_31 : decode cX0_speakerIn 31 = .ok (.aload_n 0, 1) := by decide +kernel
theorem dX0_speakerIn_32 : decode cX0_speakerIn 32 = .ok (.getfield 71, 3) := by decide +kernel
theorem dX0_speakerIn_35 : decode cX0_speakerIn 35 = .ok (.irem, 1) := by decide +kernel
theorem dX0_speakerIn_36 : decode cX0_speakerIn 36 = .ok (.iaload, 1) := by decide +kernel
theorem dX0_speakerIn_37 : decode cX0_speakerIn 37 = .ok (.ireturn, 1) := by decide +kernel
theorem dX0_timesSpoken_0 : decode cX0_timesSpoken 0 = .ok (.iconst 0, 1) := by decide +kernel
theorem dX0_timesSpoken_1 : decode cX0_timesSpoken 1 = .ok (.istore_n 2, 1) := by decide +kernel
theorem dX0_timesSpoken_2 : decode cX0_timesSpoken 2 = .ok (.iconst 1, 1) := by decide +kernel
theorem dX0_timesSpoken_3 : decode cX0_timesSpoken 3 = .ok (.istore_n 3, 1) := by decide +kernel
theorem dX0_timesSpoken_4 : decode cX0_timesSpoken 4 = .ok (.iload_n 3, 1) := by decide +kernel
theorem dX0_timesSpoken_5 : decode cX0_timesSpoken 5 = .ok (.aload_n 0, 1) := by decide +kernel
theorem dX0_timesSpoken_6 : decode cX0_timesSpoken 6 = .ok (.getfield 93, 3) := by decide +kernel
theorem dX0_timesSpoken_9 : decode cX0_timesSpoken 9 = .ok (.if_icmp .gt 31, 3) := by decide +kernel
theorem dX0_timesSpoken_12 : decode cX0_timesSpoken 12 = .ok (.aload_n 0, 1) := by decide +kernel
theorem dX0_timesSpoken_13 : decode cX0_timesSpoken 13 = .ok (.iload_n 3, 1) := by decide +kernel
theorem dX0_timesSpoken_14 : decode cX0_timesSpoken 14 = .ok (.invokevirtual 124, 3) := by decide +kernel
theorem dX0_timesSpoken_17 : decode cX0_timesSpoken 17 = .ok (.bipush (-9), 2) := by decide +kernel
theorem dX0_timesSpoken_19 : decode cX0_timesSpoken 19 = .ok (.if_icmp .eq 15, 3) := by decide +kernel
theorem dX0_timesSpoken_22 : decode cX0_timesSpoken 22 = .ok (.aload_n 0, 1) := by decide +kernel
theorem dX0_timesSpoken_23 : decode cX0_timesSpoken 23 = .ok (.iload_n 3, 1) := by decide +kernel
theorem dX0_timesSpoken_24 : decode cX0_timesSpoken 24 = .ok (.invokevirtual 96, 3) := by decide +kernel
theorem dX0_timesSpoken_27 : decode cX0_timesSpoken 27 = .ok (.iload_n 1, 1) := by decide +kernel
theorem dX0_timesSpoken_28 : decode cX0_timesSpoken 28 = .ok (.if_icmp .ne 6, 3) := by decide +kernel
theorem dX0_timesSpoken_31 : decode cX0_timesSpoken 31 = .ok (.iinc 2 1, 3) := by decide +kernel
theorem dX0_timesSpoken_34 : decode cX0_timesSpoken 34 = .ok (.iinc 3 1, 3) := by decide +kernel
theorem dX0_timesSpoken_37 : decode cX0_timesSpoken 37 = .ok (.goto (-33), 3) := by decide +kernel
theorem dX0_timesSpoken_40 : decode cX0_timesSpoken 40 = .ok (.iload_n 2, 1) := by decide +kernel
theorem dX0_timesSpoken_41 : decode cX0_timesSpoken 41 = .ok (.ireturn, 1) := by decide +kernel
theorem dX1_init_0 : decode cX1_init 0 = .ok (.aload_n 0, 1) := by decide +kernel
theorem dX1_init_1 : decode cX1_init 1 = .ok (.invokespecial 3, 3) := by decide +kernel
theorem dX1_init_4 : decode cX1_init 4 = .ok (.aload_n 0, 1) := by decide +kernel
theorem dX1_init_5 : decode cX1_init 5 = .ok (.bipush 25, 2) := by decide +kernel
theorem dX1_init_7 : decode cX1_init 7 = .ok (.newarray .int, 2) := by decide +kernel
theorem dX1_init_9 : decode cX1_init 9 = .ok (.putfield 9, 3) := by decide +kernel
theorem dX1_init_12 : decode cX1_init 12 = .ok (.aload_n 0, 1) := by decide +kernel
theorem dX1_init_13 : decode cX1_init 13 = .ok (.bipush 25, 2) := by decide +kernel
theorem dX1_init_15 : decode cX1_init 15 = .ok (.newarray .int, 2) := by decide +kernel
theorem dX1_init_17 : decode cX1_init 17 = .ok (.putfield 15, 3) := by decide +kernel
theorem dX1_init_20 : decode cX1_init 20 = .ok (.aload_n 0, 1) := by decide +kernel
theorem dX1_init_21 : decode cX1_init 21 = .ok (.iconst 5, 1) := by decide +kernel
theorem dX1_init_22 : decode cX1_init 22 = .ok (.newarray .int, 2) := by decide +kernel
theorem dX1_init_24 : decode cX1_init 24 = .ok (.putfield 18, 3) := by decide +kernel
theorem dX1_init_27 : decode cX1_init 27 = .ok (.aload_n 0, 1) := by decide +kernel
theorem dX1_init_28 : decode cX1_init 28 = .ok (.bipush 125, 2) := by decide +kernel
theorem dX1_init_30 : decode cX1_init 30 = .ok (.newarray .int, 2) := by decide +kernel
theorem dX1_init_32 : decode cX1_init 32 = .ok (.putfield 21, 3) := by decide +kernel
theorem dX1_init_35 : decode cX1_init 35 = .ok (.aload_n 0, 1) := by decide +kernel
theorem dX1_init_36 : decode cX1_init 36 = .ok (.iconst 0, 1) := by decide +kernel
theorem dX1_init_37 : decode cX1_init 37 = .ok (.putfield 24, 3) := by decide +kernel
theorem dX1_init_40 : decode cX1_init 40 = .ok (.aload_n 0, 1) := by decide +kernel
theorem dX1_init_41 : decode cX1_init 41 = .ok (.iconst 0, 1) := by decide +kernel
theorem dX1_init_42 : decode cX1_init 42 = .ok (.putfield 28, 3) := by decide +kernel
theorem dX1_init_45 : decode cX1_init 45 = .ok (.return_, 1) := by decide +kernel
theorem dX1_become_0 : decode cX1_become 0 = .ok (.aload_n 1, 1) := by decide +kernel
theorem dX1_become_1 : decode cX1_become 1 = .ok (.getfield 9, 3) := by decide +kernel
theorem dX1_become_4 : decode cX1_become 4 = .ok (.iconst 0, 1) := by decide +kernel
theorem dX1_become_5 : decode cX1_become 5 = .ok (.aload_n 0, 1) := by decide +kernel
theorem dX1_become_6 : decode cX1_become 6 = .ok (.getfield 9, 3) := by decide +kernel
theorem dX1_become_9 : decode cX1_become 9 = .ok (.iconst 0, 1) := by decide +kernel
theorem dX1_become_10 : decode cX1_become 10 = .ok (.bipush 25, 2) := by decide +kernel
theorem dX1_become_12 : decode cX1_become 12 = .ok (.invokestatic 31, 3) := by decide +kernel
theorem dX1_become_15 : decode cX1_become 15 = .ok (.aload_n 1, 1) := by decide +kernel
theorem dX1_become_16 : decode cX1_become 16 = .ok (.getfield 15, 3) := by decide +kernel
theorem dX1_become_19 : decode cX1_become 19 = .ok (.iconst 0, 1) := by decide +kernel
theorem dX1_become_20 : decode cX1_become 20 = .ok (.aload_n 0, 1) := by decide +kernel
theorem dX1_become_21 : decode cX1_become 21 = .ok (.getfield 15, 3) := by decide +kernel
theorem dX1_become_24 : decode cX1_become 24 = .ok (.iconst 0, 1) := by decide +kernel
theorem dX1_become_25 : decode cX1_become 25 = .ok (.bipush 25, 2) := by decide +kernel
theorem dX1_become_27 : decode cX1_become 27 = .ok (.invokestatic 31, 3) := by decide +kernel
theorem dX1_become_30 : decode cX1_become 30 = .ok (.aload_n 1, 1) := by decide +kernel
theorem dX1_become_31 : decode cX1_become 31 = .ok (.getfield 18, 3) := by decide +kernel
theorem dX1_become_34 : decode cX1_become 34 = .ok (.iconst 0, 1) := by decide +kernel
theorem dX1_become_35 : decode cX1_become 35 = .ok (.aload_n 0, 1) := by decide +kernel
theorem dX1_become_36 : decode cX1_become 36 = .ok (.getfield 18, 3) := by decide +kernel
theorem dX1_become_39 : decode cX1_become 39 = .ok (.iconst 0, 1) := by decide +kernel
theorem dX1_become_40 : decode cX1_become 40 = .ok (.iconst 5, 1) := by decide +kernel
theorem dX1_become_41 : decode cX1_become 41 = .ok (.invokestatic 31, 3) := by decide +kernel
theorem dX1_become_44 : decode cX1_become 44 = .ok (.aload_n 1, 1) := by decide +kernel
theorem dX1_become_45 : decode cX1_become 45 = .ok (.getfield 21, 3) := by decide +kernel
theorem dX1_become_48 : decode cX1_become 48 = .ok (.iconst 0, 1) := by decide +kernel
theorem dX1_become_49 : decode cX1_become 49 = .ok (.aload_n 0, 1) := by decide +kernel
theorem dX1_become_50 : decode cX1_become 50 = .ok (.getfield 21, 3) := by decide +kernel
theorem dX1_become_53 : decode cX1_become 53 = .ok (.iconst 0, 1) := by decide +kernel
theorem dX1_become_54 : decode cX1_become 54 = .ok (.bipush 125, 2) := by decide +kernel
theorem dX1_become_56 : decode cX1_become 56 = .ok (.invokestatic 31, 3) := by decide +kernel
theorem dX1_become_59 : decode cX1_become 59 = .ok (.aload_n 0, 1) := by decide +kernel
theorem dX1_become_60 : decode cX1_become 60 = .ok (.aload_n 1, 1) := by decide +kernel
theorem dX1_become_61 : decode cX1_become 61 = .ok (.getfield 24, 3) := by decide +kernel
theorem dX1_become_64 : decode cX1_become 64 = .ok (.putfield 24, 3) := by decide +kernel
theorem dX1_become_67 : decode cX1_become 67 = .ok (.aload_n 0, 1) := by decide +kernel
theorem dX1_become_68 : decode cX1_become 68 = .ok (.aload_n 1, 1) := by decide +kernel
theorem dX1_become_69 : decode cX1_become 69 = .ok (.getfield 28, 3) := by decide +kernel
theorem dX1_become_72 : decode cX1_become 72 = .ok (.putfield 28, 3) := by decide +kernel
theorem dX1_become_75 : decode cX1_become 75 = .ok (.return_, 1) := by decide +kernel
theorem dX1_hasPerson_0 : decode cX1_hasPerson 0 = .ok (.iload_n 1, 1) := by decide +kernel
theorem dX1_hasPerson_1 : decode cX1_hasPerson 1 = .ok (.ifCond .lt 20, 3) := by decide +kernel
theorem dX1_hasPerson_4 : decode cX1_hasPerson 4 = .ok (.iload_n 1, 1) := by decide +kernel
theorem dX1_hasPerson_5 : decode cX1_hasPerson 5 = .ok (.aload_n 0, 1) := by decide +kernel
theorem dX1_hasPerson_6 : decode cX1_hasPerson 6 = .ok (.getfield 24, 3) := by decide +kernel
theorem dX1_hasPerson_9 : decode cX1_hasPerson 9 = .ok (.if_icmp .ge 12, 3) := by decide +kernel
theorem dX1_hasPerson_12 : decode cX1_hasPerson 12 = .ok (.iload_n 1, 1) := by decide +kernel
theorem dX1_hasPerson_13 : decode cX1_hasPerson 13 = .ok (.iconst 5, 1) := by decide +kernel
theorem dX1_hasPerson_14 : decode cX1_hasPerson 14 = .ok (.if_icmp .ge 7, 3) := by decide +kernel
theorem dX1_hasPerson_17 : decode cX1_hasPerson 17 = .ok (.iconst 1, 1) := by decide +kernel
theorem dX1_hasPerson_18 : decode cX1_hasPerson 18 = .ok (.goto 4, 3) := by decide +kernel
theorem dX1_hasPerson_21 : decode cX1_hasPerson 21 = .ok (.iconst 0, 1) := by decide +kernel
theorem dX1_hasPerson_22 : decode cX1_hasPerson 22 = .ok (.ireturn, 1) := by decide +kernel
theorem dX1_kindOf_0 : decode cX1_kindOf 0 = .ok (.iload_n 1, 1) := by decide +kernel
theorem dX1_kindOf_1 : decode cX1_kindOf 1 = .ok (.invokestatic 37, 3) := by decide +kernel
theorem dX1_kindOf_4 : decode cX1_kindOf 4 = .ok (.ifCond .eq 12, 3) := by decide +kernel
theorem dX1_kindOf_7 : decode cX1_kindOf 7 = .ok (.aload_n 0, 1) := by decide +kernel
theorem dX1_kindOf_8 : decode cX1_kindOf 8 = .ok (.getfield 9, 3) := by decide +kernel
theorem dX1_kindOf_11 : decode cX1_kindOf 11 = .ok (.iload_n 1, 1) := by decide +kernel
theorem dX1_kindOf_12 : decode cX1_kindOf 12 = .ok (.iaload, 1) := by decide +kernel
theorem dX1_kindOf_13 : decode cX1_kindOf 13 = .ok (.goto 5, 3) := by decide +kernel
theorem dX1_kindOf_16 : decode cX1_kindOf 16 = .ok (.bipush (-9), 2) := by decide +kernel
theorem dX1_kindOf_18 : decode cX1_kindOf 18 = .ok (.ireturn, 1) := by decide +kernel
theorem dX1_figureOf_0 : decode cX1_figureOf 0 = .ok (.iload_n 1, 1) := by decide +kernel
theorem dX1_figureOf_1 : decode cX1_figureOf 1 = .ok (.invokestatic 37, 3) := by decide +kernel
theorem dX1_figureOf_4 : decode cX1_figureOf 4 = .ok (.ifCond .eq 12, 3) := by decide +kernel
theorem dX1_figureOf_7 : decode cX1_figureOf 7 = .ok (.aload_n 0, 1) := by decide +kernel
theorem dX1_figureOf_8 : decode cX1_figureOf 8 = .ok (.getfield 15, 3) := by decide +kernel
theorem dX1_figureOf_11 : decode cX1_figureOf 11 = .ok (.iload_n 1, 1) := by decide +kernel
theorem dX1_figureOf_12 : decode cX1_figureOf 12 = .ok (.iaload, 1) := by decide +kernel
theorem dX1_figureOf_13 : decode cX1_figureOf 13 = .ok (.goto 5, 3) := by decide +kernel
theorem dX1_figureOf_16 : decode cX1_figureOf 16 = .ok (.bipush (-9), 2) := by decide +kernel
theorem dX1_figureOf_18 : decode cX1_figureOf 18 = .ok (.ireturn, 1) := by decide +kernel
theorem dX1_needsOf_0 : decode cX1_needsOf 0 = .ok (.aload_n 0, 1) := by decide +kernel
theorem dX1_needsOf_1 : decode cX1_needsOf 1 = .ok (.iload_n 1, 1) := by decide +kernel
theorem dX1_needsOf_2 : decode cX1_needsOf 2 = .ok (.invokevirtual 41, 3) := by decide +kernel
theorem dX1_needsOf_5 : decode cX1_needsOf 5 = .ok (.invokestatic 45, 3) := by decide +kernel
theorem dX1_needsOf_8 : decode cX1_needsOf 8 = .ok (.ireturn, 1) := by decide +kernel
theorem dX1_catchesOf_0 : decode cX1_catchesOf 0 = .ok (.aload_n 0, 1) := by decide +kernel
theorem dX1_catchesOf_1 : decode cX1_catchesOf 1 = .ok (.iload_n 1, 1) := by decide +kernel
theorem dX1_catchesOf_2 : decode cX1_catchesOf 2 = .ok (.invokevirtual 41, 3) := by decide +kernel
theorem dX1_catchesOf_5 : decode cX1_catchesOf 5 = .ok (.invokestatic 50, 3) := by decide +kernel
theorem dX1_catchesOf_8 : decode cX1_catchesOf 8 = .ok (.ireturn, 1) := by decide +kernel
theorem dX1_worthOf_0 : decode cX1_worthOf 0 = .ok (.aload_n 0, 1) := by decide +kernel
theorem dX1_worthOf_1 : decode cX1_worthOf 1 = .ok (.iload_n 1, 1) := by decide +kernel
theorem dX1_worthOf_2 : decode cX1_worthOf 2 = .ok (.invokevirtual 41, 3) := by decide +kernel
theorem dX1_worthOf_5 : decode cX1_worthOf 5 = .ok (.aload_n 0, 1) := by decide +kernel
theorem dX1_worthOf_6 : decode cX1_worthOf 6 = .ok (.iload_n 1, 1) := by decide +kernel
theorem dX1_worthOf_7 : decode cX1_worthOf 7 = .ok (.invokevirtual 53, 3) := by decide +kernel
theorem dX1_worthOf_10 : decode cX1_worthOf 10 = .ok (.invokestatic 56, 3) := by decide +kernel
theorem dX1_worthOf_13 : decode cX1_worthOf 13 = .ok (.ireturn, 1) := by decide +kernel
theorem dX1_sharpOf_0 : decode cX1_sharpOf 0 = .ok (.aload_n 0, 1) := by decide +kernel
theorem dX1_sharpOf_1 : decode cX1_sharpOf 1 = .ok (.iload_n 1, 1) := by decide +kernel
theorem dX1_sharpOf_2 : decode cX1_sharpOf 2 = .ok (.invokevirtual 60, 3) := by decide +kernel
theorem dX1_sharpOf_5 : decode cX1_sharpOf 5 = .ok (.ifCond .eq 12, 3) := by decide +kernel
theorem dX1_sharpOf_8 : decode cX1_sharpOf 8 = .ok (.aload_n 0, 1) := by decide +kernel
theorem dX1_sharpOf_9 : decode cX1_sharpOf 9 = .ok (.getfield 18, 3) := by decide +kernel
theorem dX1_sharpOf_12 : decode cX1_sharpOf 12 = .ok (.iload_n 1, 1) := by decide +kernel
theorem dX1_sharpOf_13 : decode cX1_sharpOf 13 = .ok (.iaload, 1) := by decide +kernel
theorem dX1_sharpOf_14 : decode cX1_sharpOf 14 = .ok (.goto 5, 3) := by decide +kernel
theorem dX1_sharpOf_17 : decode cX1_sharpOf 17 = .ok (.bipush (-9), 2) := by decide +kernel
theorem dX1_sharpOf_19 : decode cX1_sharpOf 19 = .ok (.ireturn, 1) := by decide +kernel
theorem dX1_knownBy_0 : decode cX1_knownBy 0 = .ok (.aload_n 0, 1) := by decide +kernel
theorem dX1_knownBy_1 : decode cX1_knownBy 1 = .ok (.iload_n 1, 1) := by decide +kernel
theorem dX1_knownBy_2 : decode cX1_knownBy 2 = .ok (.invokevirtual 60, 3) := by decide +kernel
theorem dX1_knownBy_5 : decode cX1_knownBy 5 = .ok (.ifCond .eq 24, 3) := by decide +kernel
theorem dX1_knownBy_8 : decode cX1_knownBy 8 = .ok (.iload_n 2, 1) := by decide +kernel
theorem dX1_knownBy_9 : decode cX1_knownBy 9 = .ok (.invokestatic 37, 3) := by decide +kernel
theorem dX1_knownBy_12 : decode cX1_knownBy 12 = .ok (.ifCond .eq 17, 3) := by decide +kernel
theorem dX1_knownBy_15 : decode cX1_knownBy 15 = .ok (.aload_n 0, 1) := by decide +kernel
theorem dX1_knownBy_16 : decode cX1_knownBy 16 = .ok (.getfield 21, 3) := by decide +kernel
theorem dX1_knownBy_19 : decode cX1_knownBy 19 = .ok (.iload_n 1, 1) := by decide +kernel
theorem dX1_knownBy_20 : decode cX1_knownBy 20 = .ok (.bipush 25, 2) := by decide +kernel
theorem dX1_knownBy_22 : decode cX1_knownBy 22 = .ok (.imul, 1) := by decide +kernel
theorem dX1_knownBy_23 : decode cX1_knownBy 23 = .ok (.iload_n 2, 1) := by decide +kernel
theorem dX1_knownBy_24 : decode cX1_knownBy 24 = .ok (.iadd, 1) := by decide +kernel
theorem dX1_knownBy_25 : decode cX1_knownBy 25 = .ok (.iaload, 1) := by decide +kernel
theorem dX1_knownBy_26 : decode cX1_knownBy 26 = .ok (.goto 5, 3) := by decide +kernel
theorem dX1_knownBy_29 : decode cX1_knownBy 29 = .ok (.bipush (-9), 2) := by decide +kernel
theorem dX1_knownBy_31 : decode cX1_knownBy 31 = .ok (.ireturn, 1) := by decide +kernel
theorem dX1_put_0 : decode cX1_put 0 = .ok (.iload_n 1, 1) := by decide +kernel
theorem dX1_put_1 : decode cX1_put 1 = .ok (.invokestatic 37, 3) := by decide +kernel
theorem dX1_put_4 : decode cX1_put 4 = .ok (.ifCond .eq 17, 3) := by decide +kernel
theorem dX1_put_7 : decode cX1_put 7 = .ok (.aload_n 0, 1) := by decide +kernel
theorem dX1_put_8 : decode cX1_put 8 = .ok (.getfield 9, 3) := by decide +kernel
theorem dX1_put_11 : decode cX1_put 11 = .ok (.iload_n 1, 1) := by decide +kernel
theorem dX1_put_12 : decode cX1_put 12 = .ok (.iload_n 2, 1) := by decide +kernel
theorem dX1_put_13 : decode cX1_put 13 = .ok (.iastore, 1) := by decide +kernel
theorem dX1_put_14 : decode cX1_put 14 = .ok (.aload_n 0, 1) := by decide +kernel
theorem dX1_put_15 : decode cX1_put 15 = .ok (.getfield 15, 3) := by decide +kernel
theorem dX1_put_18 : decode cX1_put 18 = .ok (.iload_n 1, 1) := by decide +kernel
theorem dX1_put_19 : decode cX1_put 19 = .ok (.iload_n 3, 1) := by decide +kernel
theorem dX1_put_20 : decode cX1_put 20 = .ok (.iastore, 1) := by decide +kernel
theorem dX1_put_21 : decode cX1_put 21 = .ok (.return_, 1) := by decide +kernel
theorem dX1_sharpen_0 : decode cX1_sharpen 0 = .ok (.aload_n 0, 1) := by decide +kernel
theorem dX1_sharpen_1 : decode cX1_sharpen 1 = .ok (.iload_n 1, 1) := by decide +kernel
theorem dX1_sharpen_2 : decode cX1_sharpen 2 = .ok (.invokevirtual 60, 3) := by decide +kernel
theorem dX1_sharpen_5 : decode cX1_sharpen 5 = .ok (.ifCond .eq 10, 3) := by decide +kernel
theorem dX1_sharpen_8 : decode cX1_sharpen 8 = .ok (.aload_n 0, 1) := by decide +kernel
theorem dX1_sharpen_9 : decode cX1_sharpen 9 = .ok (.getfield 18, 3) := by decide +kernel
theorem dX1_sharpen_12 : decode cX1_sharpen 12 = .ok (.iload_n 1, 1) := by decide +kernel
theorem dX1_sharpen_13 : decode cX1_sharpen 13 = .ok (.iload_n 2, 1) := by decide +kernel
theorem dX1_sharpen_14 : decode cX1_sharpen 14 = .ok (.iastore, 1) := by decide +kernel
theorem dX1_sharpen_15 : decode cX1_sharpen 15 = .ok (.return_, 1) := by decide +kernel
theorem dX1_learn_0 : decode cX1_learn 0 = .ok (.aload_n 0, 1) := by decide +kernel
theorem dX1_learn_1 : decode cX1_learn 1 = .ok (.iload_n 1, 1) := by decide +kernel
theorem dX1_learn_2 : decode cX1_learn 2 = .ok (.invokevirtual 60, 3) := by decide +kernel
theorem dX1_learn_5 : decode cX1_learn 5 = .ok (.ifCond .eq 22, 3) := by decide +kernel
theorem dX1_learn_8 : decode cX1_learn 8 = .ok (.iload_n 2, 1) := by decide +kernel
theorem dX1_learn_9 : decode cX1_learn 9 = .ok (.invokestatic 37, 3) := by decide +kernel
theorem dX1_learn_12 : decode cX1_learn 12 = .ok (.ifCond .eq 15, 3) := by decide +kernel
theorem dX1_learn_15 : decode cX1_learn 15 = .ok (.aload_n 0, 1) := by decide +kernel
theorem dX1_learn_16 : decode cX1_learn 16 = .ok (.getfield 21, 3) := by decide +kernel
theorem dX1_learn_19 : decode cX1_learn 19 = .ok (.iload_n 1, 1) := by decide +kernel
theorem dX1_learn_20 : decode cX1_learn 20 = .ok (.bipush 25, 2) := by decide +kernel
theorem dX1_learn_22 : decode cX1_learn 22 = .ok (.imul, 1) := by decide +kernel
theorem dX1_learn_23 : decode cX1_learn 23 = .ok (.iload_n 2, 1) := by decide +kernel
theorem dX1_learn_24 : decode cX1_learn 24 = .ok (.iadd, 1) := by decide +kernel
theorem dX1_learn_25 : decode cX1_learn 25 = .ok (.iload_n 3, 1) := by decide +kernel
theorem dX1_learn_26 : decode cX1_learn 26 = .ok (.iastore, 1) := by decide +kernel
theorem dX1_learn_27 : decode cX1_learn 27 = .ok (.return_, 1) := by decide +kernel
theorem dX1_takeIn_0 : decode cX1_takeIn 0 = .ok (.aload_n 0, 1) := by decide +kernel
theorem dX1_takeIn_1 : decode cX1_takeIn 1 = .ok (.getfield 24, 3) := by decide +kernel
theorem dX1_takeIn_4 : decode cX1_takeIn 4 = .ok (.iconst 5, 1) := by decide +kernel
theorem dX1_takeIn_5 : decode cX1_takeIn 5 = .ok (.if_icmp .lt 5, 3) := by decide +kernel
theorem dX1_takeIn_8 : decode cX1_takeIn 8 = .ok (.iconst 0, 1) := by decide +kernel
theorem dX1_takeIn_9 : decode cX1_takeIn 9 = .ok (.ireturn, 1) := by decide +kernel
theorem dX1_takeIn_10 : decode cX1_takeIn 10 = .ok (.aload_n 0, 1) := by decide +kernel
theorem dX1_takeIn_11 : decode cX1_takeIn 11 = .ok (.getfield 24, 3) := by decide +kernel
theorem dX1_takeIn_14 : decode cX1_takeIn 14 = .ok (.istore_n 2, 1) := by decide +kernel
theorem dX1_takeIn_15 : decode cX1_takeIn 15 = .ok (.aload_n 0, 1) := by decide +kernel
theorem dX1_takeIn_16 : decode cX1_takeIn 16 = .ok (.dup, 1) := by decide +kernel
theorem dX1_takeIn_17 : decode cX1_takeIn 17 = .ok (.getfield 24, 3) := by decide +kernel
theorem dX1_takeIn_20 : decode cX1_takeIn 20 = .ok (.iconst 1, 1) := by decide +kernel
theorem dX1_takeIn_21 : decode cX1_takeIn 21 = .ok (.iadd, 1) := by decide +kernel
theorem dX1_takeIn_22 : decode cX1_takeIn 22 = .ok (.putfield 24, 3) := by decide +kernel
theorem dX1_takeIn_25 : decode cX1_takeIn 25 = .ok (.aload_n 0, 1) := by decide +kernel
theorem dX1_takeIn_26 : decode cX1_takeIn 26 = .ok (.iload_n 2, 1) := by decide +kernel
theorem dX1_takeIn_27 : decode cX1_takeIn 27 = .ok (.iload_n 1, 1) := by decide +kernel
theorem dX1_takeIn_28 : decode cX1_takeIn 28 = .ok (.invokevirtual 63, 3) := by decide +kernel
theorem dX1_takeIn_31 : decode cX1_takeIn 31 = .ok (.iconst 0, 1) := by decide +kernel
theorem dX1_takeIn_32 : decode cX1_takeIn 32 = .ok (.istore_n 3, 1) := by decide +kernel
theorem dX1_takeIn_33 : decode cX1_takeIn 33 = .ok (.iload_n 3, 1) := by decide +kernel
theorem dX1_takeIn_34 : decode cX1_takeIn 34 = .ok (.bipush 25, 2) := by decide +kernel
theorem dX1_takeIn_36 : decode cX1_takeIn 36 = .ok (.if_icmp .ge 16, 3) := by decide +kernel
theorem dX1_takeIn_39 : decode cX1_takeIn 39 = .ok (.aload_n 0, 1) := by decide +kernel
theorem dX1_takeIn_40 : decode cX1_takeIn 40 = .ok (.iload_n 2, 1) := by decide +kernel
theorem dX1_takeIn_41 : decode cX1_takeIn 41 = .ok (.iload_n 3, 1) := by decide +kernel
theorem dX1_takeIn_42 : decode cX1_takeIn 42 = .ok (.iconst 0, 1) := by decide +kernel
theorem dX1_takeIn_43 : decode cX1_takeIn 43 = .ok (.invokevirtual 67, 3) := by decide +kernel
theorem dX1_takeIn_46 : decode cX1_takeIn 46 = .ok (.iinc 3 1, 3) := by decide +kernel
theorem dX1_takeIn_49 : decode cX1_takeIn 49 = .ok (.goto (-16), 3) := by decide +kernel
theorem dX1_takeIn_52 : decode cX1_takeIn 52 = .ok (.iconst 1, 1) := by decide +kernel
theorem dX1_takeIn_53 : decode cX1_takeIn 53 = .ok (.ireturn, 1) := by decide +kernel
theorem dX1_passNights_0 : decode cX1_passNights 0 = .ok (.iconst 0, 1) := by decide +kernel
theorem dX1_passNights_1 : decode cX1_passNights 1 = .ok (.istore_n 2, 1) := by decide +kernel
theorem dX1_passNights_2 : decode cX1_passNights 2 = .ok (.iload_n 2, 1) := by decide +kernel
theorem dX1_passNights_3 : decode cX1_passNights 3 = .ok (.iload_n 1, 1) := by decide +kernel
theorem dX1_passNights_4 : decode cX1_passNights 4 = .ok (.if_icmp .ge 62, 3) := by decide +kernel
theorem dX1_passNights_7 : decode cX1_passNights 7 = .ok (.aload_n 0, 1) := by decide +kernel
theorem dX1_passNights_8 : decode cX1_passNights 8 = .ok (.dup, 1) := by decide +kernel
theorem dX1_passNights_9 : decode cX1_passNights 9 = .ok (.getfield 28, 3) := by decide +kernel
theorem dX1_passNights_12 : decode cX1_passNights 12 = .ok (.iconst 1, 1) := by decide +kernel
theorem dX1_passNights_13 : decode cX1_passNights 13 = .ok (.iadd, 1) := by decide +kernel
theorem dX1_passNights_14 : decode cX1_passNights 14 = .ok (.putfield 28, 3) := by decide +kernel
theorem dX1_passNights_17 : decode cX1_passNights 17 = .ok (.iconst 0, 1) := by decide +kernel
theorem dX1_passNights_18 : decode cX1_passNights 18 = .ok (.istore_n 3, 1) := by decide +kernel
theorem dX1_passNights_19 : decode cX1_passNights 19 = .ok (.iload_n 3, 1) := by decide +kernel
theorem dX1_passNights_20 : decode cX1_passNights 20 = .ok (.aload_n 0, 1) := by decide +kernel
theorem dX1_passNights_21 : decode cX1_passNights 21 = .ok (.getfield 24, 3) := by decide +kernel
theorem dX1_passNights_24 : decode cX1_passNights 24 = .ok (.if_icmp .ge 36, 3) := by decide +kernel
theorem dX1_passNights_27 : decode cX1_passNights 27 = .ok (.aload_n 0, 1) := by decide +kernel
theorem dX1_passNights_28 : decode cX1_passNights 28 = .ok (.iload_n 3, 1) := by decide +kernel
theorem dX1_passNights_29 : decode cX1_passNights 29 = .ok (.invokevirtual 71, 3) := by decide +kernel
theorem dX1_passNights_32 : decode cX1_passNights 32 = .ok (.istore 4, 2) := by decide +kernel
theorem dX1_passNights_34 : decode cX1_passNights 34 = .ok (.iload 4, 2) := by decide +kernel
theorem dX1_passNights_36 : decode cX1_passNights 36 = .ok (.ifCond .le 18, 3) := by decide +kernel
theorem dX1_passNights_39 : decode cX1_passNights 39 = .ok (.aload_n 0, 1) := by decide +kernel
theorem dX1_passNights_40 : decode cX1_passNights 40 = .ok (.getfield 28, 3) := by decide +kernel
theorem dX1_passNights_43 : decode cX1_passNights 43 = .ok (.iload 4, 2) := by decide +kernel
theorem dX1_passNights_45 : decode cX1_passNights 45 = .ok (.irem, 1) := by decide +kernel
theorem dX1_passNights_46 : decode cX1_passNights 46 = .ok (.ifCond .ne 8, 3) := by decide +kernel
theorem dX1_passNights_49 : decode cX1_passNights 49 = .ok (.aload_n 0, 1) := by decide +kernel
theorem dX1_passNights_50 : decode cX1_passNights 50 = .ok (.iload_n 3, 1) := by decide +kernel
theorem dX1_passNights_51 : decode cX1_passNights 51 = .ok (.invokevirtual 74, 3) := by decide +kernel
theorem dX1_passNights_54 : decode cX1_passNights 54 = .ok (.iinc 3 1, 3) := by decide +kernel
theorem dX1_passNights_57 : decode cX1_passNights 57 = .ok (.goto (-38), 3) := by decide +kernel
theorem dX1_passNights_60 : decode cX1_passNights 60 = .ok (.iinc 2 1, 3) := by decide +kernel
theorem dX1_passNights_63 : decode cX1_passNights 63 = .ok (.goto (-61), 3) := by decide +kernel
theorem dX1_passNights_66 : decode cX1_passNights 66 = .ok (.return_, 1) := by decide +kernel
theorem dX1_forgetSome_0 : decode cX1_forgetSome 0 = .ok (.aload_n 0, 1) := by decide +kernel
theorem dX1_forgetSome_1 : decode cX1_forgetSome 1 = .ok (.iload_n 1, 1) := by decide +kernel
theorem dX1_forgetSome_2 : decode cX1_forgetSome 2 = .ok (.invokevirtual 60, 3) := by decide +kernel
theorem dX1_forgetSome_5 : decode cX1_forgetSome 5 = .ok (.ifCond .ne 4, 3) := by decide +kernel
theorem dX1_forgetSome_8 : decode cX1_forgetSome 8 = .ok (.return_, 1) := by decide +kernel
theorem dX1_forgetSome_9 : decode cX1_forgetSome 9 = .ok (.iconst 0, 1) := by decide +kernel
theorem dX1_forgetSome_10 : decode cX1_forgetSome 10 = .ok (.istore_n 2, 1) := by decide +kernel
theorem dX1_forgetSome_11 : decode cX1_forgetSome 11 = .ok (.iload_n 2, 1) := by decide +kernel
theorem dX1_forgetSome_12 : decode cX1_forgetSome 12 = .ok (.bipush 25, 2) := by decide +kernel
theorem dX1_forgetSome_14 : decode cX1_forgetSome 14 = .ok (.if_icmp .ge 34, 3) := by decide +kernel
theorem dX1_forgetSome_17 : decode cX1_forgetSome 17 = .ok (.iload_n 1, 1) := by decide +kernel
theorem dX1_forgetSome_18 : decode cX1_forgetSome 18 = .ok (.bipush 25, 2) := by decide +kernel
theorem dX1_forgetSome_20 : decode cX1_forgetSome 20 = .ok (.imul, 1) := by decide +kernel
theorem dX1_forgetSome_21 : decode cX1_forgetSome 21 = .ok (.iload_n 2, 1) := by decide +kernel
theorem dX1_forgetSome_22 : decode cX1_forgetSome 22 = .ok (.iadd, 1) := by decide +kernel
theorem dX1_forgetSome_23 : decode cX1_forgetSome 23 = .ok (.istore_n 3, 1) := by decide +kernel
theorem dX1_forgetSome_24 : decode cX1_forgetSome 24 = .ok (.aload_n 0, 1) := by decide +kernel
theorem dX1_forgetSome_25 : decode cX1_forgetSome 25 = .ok (.getfield 21, 3) := by decide +kernel
theorem dX1_forgetSome_28 : decode cX1_forgetSome 28 = .ok (.iload_n 3, 1) := by decide +kernel
theorem dX1_forgetSome_29 : decode cX1_forgetSome 29 = .ok (.iconst 0, 1) := by decide +kernel
theorem dX1_forgetSome_30 : decode cX1_forgetSome 30 = .ok (.aload_n 0, 1) := by decide +kernel
theorem dX1_forgetSome_31 : decode cX1_forgetSome 31 = .ok (.getfield 21, 3) := by decide +kernel
theorem dX1_forgetSome_34 : decode cX1_forgetSome 34 = .ok (.iload_n 3, 1) := by decide +kernel
theorem dX1_forgetSome_35 : decode cX1_forgetSome 35 = .ok (.iaload, 1) := by decide +kernel
theorem dX1_forgetSome_36 : decode cX1_forgetSome 36 = .ok (.iconst 1, 1) := by decide +kernel
theorem dX1_forgetSome_37 : decode cX1_forgetSome 37 = .ok (.isub, 1) := by decide +kernel
theorem dX1_forgetSome_38 : decode cX1_forgetSome 38 = .ok (.invokestatic 78, 3) := by decide +kernel
theorem dX1_forgetSome_41 : decode cX1_forgetSome 41 = .ok (.iastore, 1) := by decide +kernel
theorem dX1_forgetSome_42 : decode cX1_forgetSome 42 = .ok (.iinc 2 1, 3) := by decide +kernel
theorem dX1_forgetSome_45 : decode cX1_forgetSome 45 = .ok (.goto (-34), 3) := by decide +kernel
theorem dX1_forgetSome_48 : decode cX1_forgetSome 48 = .ok (.return_, 1) := by decide +kernel
theorem dX1_roomsSayableBy_0 : decode cX1_roomsSayableBy 0 = .ok (.iconst 0, 1) := by decide +kernel
theorem dX1_roomsSayableBy_1 : decode cX1_roomsSayableBy 1 = .ok (.istore_n 2, 1) := by decide +kernel
theorem dX1_roomsSayableBy_2 : decode cX1_roomsSayableBy 2 = .ok (.aload_n 0, 1) := by decide +kernel
theorem dX1_roomsSayableBy_3 : decode cX1_roomsSayableBy 3 = .ok (.iload_n 1, 1) := by decide +kernel
theorem dX1_roomsSayableBy_4 : decode cX1_roomsSayableBy 4 = .ok (.invokevirtual 60, 3) := by decide +kernel
theorem dX1_roomsSayableBy_7 : decode cX1_roomsSayableBy 7 = .ok (.ifCond .ne 5, 3) := by decide +kernel
theorem dX1_roomsSayableBy_10 : decode cX1_roomsSayableBy 10 = .ok (.iload_n 2, 1) := by decide +kernel
theorem dX1_roomsSayableBy_11 : decode cX1_roomsSayableBy 11 = .ok (.ireturn, 1) := by decide +kernel
theorem dX1_roomsSayableBy_12 : decode cX1_roomsSayableBy 12 = .ok (.iconst 0, 1) := by decide +kernel
theorem dX1_roomsSayableBy_13 : decode cX1_roomsSayableBy 13 = .ok (.istore_n 3, 1) := by decide +kernel
theorem dX1_roomsSayableBy_14 : decode cX1_roomsSayableBy 14 = .ok (.iload_n 3, 1) := by decide +kernel
theorem dX1_roomsSayableBy_15 : decode cX1_roomsSayableBy 15 = .ok (.bipush 25, 2) := by decide +kernel
theorem dX1_roomsSayableBy_17 : decode cX1_roomsSayableBy 17 = .ok (.if_icmp .ge 38, 3) := by decide +kernel
theorem dX1_roomsSayableBy_20 : decode cX1_roomsSayableBy 20 = .ok (.aload_n 0, 1) := by decide +kernel
theorem dX1_roomsSayableBy_21 : decode cX1_roomsSayableBy 21 = .ok (.getfield 21, 3) := by decide +kernel
theorem dX1_roomsSayableBy_24 : decode cX1_roomsSayableBy 24 = .ok (.iload_n 1, 1) := by decide +kernel
theorem dX1_roomsSayableBy_25 : decode cX1_roomsSayableBy 25 = .ok (.bipush 25, 2) := by decide +kernel
theorem dX1_roomsSayableBy_27 : decode cX1_roomsSayableBy 27 = .ok (.imul, 1) := by decide +kernel
theorem dX1_roomsSayableBy_28 : decode cX1_roomsSayableBy 28 = .ok (.iload_n 3, 1) := by decide +kernel
theorem dX1_roomsSayableBy_29 : decode cX1_roomsSayableBy 29 = .ok (.iadd, 1) := by decide +kernel
theorem dX1_roomsSayableBy_30 : decode cX1_roomsSayableBy 30 = .ok (.iaload, 1) := by decide +kernel
theorem dX1_roomsSayableBy_31 : decode cX1_roomsSayableBy 31 = .ok (.aload_n 0, 1) := by decide +kernel
theorem dX1_roomsSayableBy_32 : decode cX1_roomsSayableBy 32 = .ok (.getfield 9, 3) := by decide +kernel
theorem dX1_roomsSayableBy_35 : decode cX1_roomsSayableBy 35 = .ok (.iload_n 3, 1) := by decide +kernel
theorem dX1_roomsSayableBy_36 : decode cX1_roomsSayableBy 36 = .ok (.iaload, 1) := by decide +kernel
theorem dX1_roomsSayableBy_37 : decode cX1_roomsSayableBy 37 = .ok (.invokestatic 45, 3) := by decide +kernel
theorem dX1_roomsSayableBy_40 : decode cX1_roomsSayableBy 40 = .ok (.if_icmp .lt 9, 3) := by decide +kernel
theorem dX1_roomsSayableBy_43 : decode cX1_roomsSayableBy 43 = .ok (.iload_n 2, 1) := by decide +kernel
theorem dX1_roomsSayableBy_44 : decode cX1_roomsSayableBy 44 = .ok (.iconst 1, 1) := by decide +kernel
theorem dX1_roomsSayableBy_45 : decode cX1_roomsSayableBy 45 = .ok (.iload_n 3, 1) := by decide +kernel
theorem dX1_roomsSayableBy_46 : decode cX1_roomsSayableBy 46 = .ok (.ishl, 1) := by decide +kernel
theorem dX1_roomsSayableBy_47 : decode cX1_roomsSayableBy 47 = .ok (.ior, 1) := by decide +kernel
theorem dX1_roomsSayableBy_48 : decode cX1_roomsSayableBy 48 = .ok (.istore_n 2, 1) := by decide +kernel
theorem dX1_roomsSayableBy_49 : decode cX1_roomsSayableBy 49 = .ok (.iinc 3 1, 3) := by decide +kernel
theorem dX1_roomsSayableBy_52 : decode cX1_roomsSayableBy 52 = .ok (.goto (-38), 3) := by decide +kernel
theorem dX1_roomsSayableBy_55 : decode cX1_roomsSayableBy 55 = .ok (.iload_n 2, 1) := by decide +kernel
theorem dX1_roomsSayableBy_56 : decode cX1_roomsSayableBy 56 = .ok (.ireturn, 1) := by decide +kernel
theorem dX1_sureRooms_0 : decode cX1_sureRooms 0 = .ok (.aload_n 0, 1) := by decide +kernel
theorem dX1_sureRooms_1 : decode cX1_sureRooms 1 = .ok (.getfield 24, 3) := by decide +kernel
theorem dX1_sureRooms_4 : decode cX1_sureRooms 4 = .ok (.ifCond .ne 7, 3) := by decide +kernel
theorem dX1_sureRooms_7 : decode cX1_sureRooms 7 = .ok (.iconst 0, 1) := by decide +kernel
theorem dX1_sureRooms_8 : decode cX1_sureRooms 8 = .ok (.goto 5, 3) := by decide +kernel
theorem dX1_sureRooms_11 : decode cX1_sureRooms 11 = .ok (.ldc 83, 2) := by decide +kernel
theorem dX1_sureRooms_13 : decode cX1_sureRooms 13 = .ok (.istore_n 1, 1) := by decide +kernel
theorem dX1_sureRooms_14 : decode cX1_sureRooms 14 = .ok (.iconst 0, 1) := by decide +kernel
theorem dX1_sureRooms_15 : decode cX1_sureRooms 15 = .ok (.istore_n 2, 1) := by decide +kernel
theorem dX1_sureRooms_16 : decode cX1_sureRooms 16 = .ok (.iload_n 2, 1) := by decide +kernel
theorem dX1_sureRooms_17 : decode cX1_sureRooms 17 = .ok (.aload_n 0, 1) := by decide +kernel
theorem dX1_sureRooms_18 : decode cX1_sureRooms 18 = .ok (.getfield 24, 3) := by decide +kernel
theorem dX1_sureRooms_21 : decode cX1_sureRooms 21 = .ok (.if_icmp .ge 17, 3) := by decide +kernel
theorem dX1_sureRooms_24 : decode cX1_sureRooms 24 = .ok (.iload_n 1, 1) := by decide +kernel
theorem dX1_sureRooms_25 : decode cX1_sureRooms 25 = .ok (.aload_n 0, 1) := by decide +kernel
theorem dX1_sureRooms_26 : decode cX1_sureRooms 26 = .ok (.iload_n 2, 1) := by decide +kernel
theorem dX1_sureRooms_27 : decode cX1_sureRooms 27 = .ok (.invokevirtual 84, 3) := by decide +kernel
theorem dX1_sureRooms_30 : decode cX1_sureRooms 30 = .ok (.iand, 1) := by decide +kernel
theorem dX1_sureRooms_31 : decode cX1_sureRooms 31 = .ok (.istore_n 1, 1) := by decide +kernel
theorem dX1_sureRooms_32 : decode cX1_sureRooms 32 = .ok (.iinc 2 1, 3) := by decide +kernel
theorem dX1_sureRooms_35 : decode cX1_sureRooms 35 = .ok (.goto (-19), 3) := by decide +kernel
theorem dX1_sureRooms_38 : decode cX1_sureRooms 38 = .ok (.iload_n 1, 1) := by decide +kernel
theorem dX1_sureRooms_39 : decode cX1_sureRooms 39 = .ok (.invokestatic 87, 3) := by decide +kernel
theorem dX1_sureRooms_42 : decode cX1_sureRooms 42 = .ok (.ireturn, 1) := by decide +kernel
theorem dX1_somebodysRooms_0 : decode cX1_somebodysRooms 0 = .ok (.iconst 0, 1) := by decide +kernel
theorem dX1_somebodysRooms_1 : decode cX1_somebodysRooms 1 = .ok (.istore_n 1, 1) := by decide +kernel
theorem dX1_somebodysRooms_2 : decode cX1_somebodysRooms 2 = .ok (.iconst 0, 1) := by decide +kernel
theorem dX1_somebodysRooms_3 : decode cX1_somebodysRooms 3 = .ok (.istore_n 2, 1) := by decide +kernel
theorem dX1_somebodysRooms_4 : decode cX1_somebodysRooms 4 = .ok (.iload_n 2, 1) := by decide +kernel
theorem dX1_somebodysRooms_5 : decode cX1_somebodysRooms 5 = .ok (.aload_n 0, 1) := by decide +kernel
theorem dX1_somebodysRooms_6 : decode cX1_somebodysRooms 6 = .ok (.getfield 24, 3) := by decide +kernel
theorem dX1_somebodysRooms_9 : decode cX1_somebodysRooms 9 = .ok (.if_icmp .ge 17, 3) := by decide +kernel
theorem dX1_somebodysRooms_12 : decode cX1_somebodysRooms 12 = .ok (.iload_n 1, 1) := by decide +kernel
theorem dX1_somebodysRooms_13 : decode cX1_somebodysRooms 13 = .ok (.aload_n 0, 1) := by decide +kernel
theorem dX1_somebodysRooms_14 : decode cX1_somebodysRooms 14 = .ok (.iload_n 2, 1) := by decide +kernel
theorem dX1_somebodysRooms_15 : decode cX1_somebodysRooms 15 = .ok (.invokevirtual 84, 3) := by decide +kernel
theorem dX1_somebodysRooms_18 : decode cX1_somebodysRooms 18 = .ok (.ior, 1) := by decide +kernel
theorem dX1_somebodysRooms_19 : decode cX1_somebodysRooms 19 = .ok (.istore_n 1, 1) := by decide +kernel
theorem dX1_somebodysRooms_20 : decode cX1_somebodysRooms 20 = .ok (.iinc 2 1, 3) := by decide +kernel
theorem dX1_somebodysRooms_23 : decode cX1_somebodysRooms 23 = .ok (.goto (-19), 3) := by decide +kernel
theorem dX1_somebodysRooms_26 : decode cX1_somebodysRooms 26 = .ok (.iload_n 1, 1) := by decide +kernel
theorem dX1_somebodysRooms_27 : decode cX1_somebodysRooms 27 = .ok (.invokestatic 87, 3) := by decide +kernel
theorem dX1_somebodysRooms_30 : decode cX1_somebodysRooms 30 = .ok (.ireturn, 1) := by decide +kernel
theorem dX1_allWorth_0 : decode cX1_allWorth 0 = .ok (.iconst 0, 1) := by decide +kernel
theorem dX1_allWorth_1 : decode cX1_allWorth 1 = .ok (.istore_n 1, 1) := by decide +kernel
theorem dX1_allWorth_2 : decode cX1_allWorth 2 = .ok (.iconst 0, 1) := by decide +kernel
theorem dX1_allWorth_3 : decode cX1_allWorth 3 = .ok (.istore_n 2, 1) := by decide +kernel
theorem dX1_allWorth_4 : decode cX1_allWorth 4 = .ok (.iload_n 2, 1) := by decide +kernel
theorem dX1_allWorth_5 : decode cX1_allWorth 5 = .ok (.bipush 25, 2) := by decide +kernel
theorem dX1_allWorth_7 : decode cX1_allWorth 7 = .ok (.if_icmp .ge 17, 3) := by decide +kernel
theorem dX1_allWorth_10 : decode cX1_allWorth 10 = .ok (.iload_n 1, 1) := by decide +kernel
theorem dX1_allWorth_11 : decode cX1_allWorth 11 = .ok (.aload_n 0, 1) := by decide +kernel
theorem dX1_allWorth_12 : decode cX1_allWorth 12 = .ok (.iload_n 2, 1) := by decide +kernel
theorem dX1_allWorth_13 : decode cX1_allWorth 13 = .ok (.invokevirtual 92, 3) := by decide +kernel
theorem dX1_allWorth_16 : decode cX1_allWorth 16 = .ok (.iadd, 1) := by decide +kernel
theorem dX1_allWorth_17 : decode cX1_allWorth 17 = .ok (.istore_n 1, 1) := by decide +kernel
theorem dX1_allWorth_18 : decode cX1_allWorth 18 = .ok (.iinc 2 1, 3) := by decide +kernel
theorem dX1_allWorth_21 : decode cX1_allWorth 21 = .ok (.goto (-17), 3) := by decide +kernel
theorem dX1_allWorth_24 : decode cX1_allWorth 24 = .ok (.iload_n 1, 1) := by decide +kernel
theorem dX1_allWorth_25 : decode cX1_allWorth 25 = .ok (.ireturn, 1) := by decide +kernel
theorem dX1_walls_0 : decode cX1_walls 0 = .ok (.iconst 0, 1) := by decide +kernel
theorem dX1_walls_1 : decode cX1_walls 1 = .ok (.istore_n 1, 1) := by decide +kernel
theorem dX1_walls_2 : decode cX1_walls 2 = .ok (.iconst 0, 1) := by decide +kernel
theorem dX1_walls_3 : decode cX1_walls 3 = .ok (.istore_n 2, 1) := by decide +kernel
theorem dX1_walls_4 : decode cX1_walls 4 = .ok (.iload_n 2, 1) := by decide +kernel
theorem dX1_walls_5 : decode cX1_walls 5 = .ok (.bipush 25, 2) := by decide +kernel
theorem dX1_walls_7 : decode cX1_walls 7 = .ok (.if_icmp .ge 30, 3) := by decide +kernel
theorem dX1_walls_10 : decode cX1_walls 10 = .ok (.aload_n 0, 1) := by decide +kernel
theorem dX1_walls_11 : decode cX1_walls 11 = .ok (.iload_n 2, 1) := by decide +kernel
theorem dX1_walls_12 : decode cX1_walls 12 = .ok (.invokevirtual 41, 3) := by decide +kernel
theorem dX1_walls_15 : decode cX1_walls 15 = .ok (.iconst 4, 1) := by decide +kernel
theorem dX1_walls_16 : decode cX1_walls 16 = .ok (.if_icmp .eq 12, 3) := by decide +kernel
theorem dX1_walls_19 : decode cX1_walls 19 = .ok (.aload_n 0, 1) := by decide +kernel
theorem dX1_walls_20 : decode cX1_walls 20 = .ok (.iload_n 2, 1) := by decide +kernel
theorem dX1_walls_21 : decode cX1_walls 21 = .ok (.invokevirtual 41, 3) := by decide +kernel
theorem dX1_walls_24 : decode cX1_walls 24 = .ok (.iconst 5, 1) := by decide +kernel
theorem dX1_walls_25 : decode cX1_walls 25 = .ok (.if_icmp .ne 6, 3) := by decide +kernel
theorem dX1_walls_28 : decode cX1_walls 28 = .ok (.iinc 1 1, 3) := by decide +kernel
theorem dX1_walls_31 : decode cX1_walls 31 = .ok (.iinc 2 1, 3) := by decide +kernel
theorem dX1_walls_34 : decode cX1_walls 34 = .ok (.goto (-30), 3) := by decide +kernel
theorem dX1_walls_37 : decode cX1_walls 37 = .ok (.iload_n 1, 1) := by decide +kernel
theorem dX1_walls_38 : decode cX1_walls 38 = .ok (.ireturn, 1) := by decide +kernel
theorem dX1_allKnown_0 : decode cX1_allKnown 0 = .ok (.iconst 0, 1) := by decide +kernel
theorem dX1_allKnown_1 : decode cX1_allKnown 1 = .ok (.istore_n 1, 1) := by decide +kernel
theorem dX1_allKnown_2 : decode cX1_allKnown 2 = .ok (.iconst 0, 1) := by decide +kernel
theorem dX1_allKnown_3 : decode cX1_allKnown 3 = .ok (.istore_n 2, 1) := by decide +kernel
theorem dX1_allKnown_4 : decode cX1_allKnown 4 = .ok (.iload_n 2, 1) := by decide +kernel
theorem dX1_allKnown_5 : decode cX1_allKnown 5 = .ok (.aload_n 0, 1) := by decide +kernel
theorem dX1_allKnown_6 : decode cX1_allKnown 6 = .ok (.getfield 24, 3) := by decide +kernel
theorem dX1_allKnown_9 : decode cX1_allKnown 9 = .ok (.if_icmp .ge 32, 3) := by decide +kernel
theorem dX1_allKnown_12 : decode cX1_allKnown 12 = .ok (.iconst 0, 1) := by decide +kernel
theorem dX1_allKnown_13 : decode cX1_allKnown 13 = .ok (.istore_n 3, 1) := by decide +kernel
theorem dX1_allKnown_14 : decode cX1_allKnown 14 = .ok (.iload_n 3, 1) := by decide +kernel
theorem dX1_allKnown_15 : decode cX1_allKnown 15 = .ok (.bipush 25, 2) := by decide +kernel
theorem dX1_allKnown_17 : decode cX1_allKnown 17 = .ok (.if_icmp .ge 18, 3) := by decide +kernel
theorem dX1_allKnown_20 : decode cX1_allKnown 20 = .ok (.iload_n 1, 1) := by decide +kernel
theorem dX1_allKnown_21 : decode cX1_allKnown 21 = .ok (.aload_n 0, 1) := by decide +kernel
theorem dX1_allKnown_22 : decode cX1_allKnown 22 = .ok (.iload_n 2, 1) := by decide +kernel
theorem dX1_allKnown_23 : decode cX1_allKnown 23 = .ok (.iload_n 3, 1) := by decide +kernel
theorem dX1_allKnown_24 : decode cX1_allKnown 24 = .ok (.invokevirtual 95, 3) := by decide +kernel
theorem dX1_allKnown_27 : decode cX1_allKnown 27 = .ok (.iadd, 1) := by decide +kernel
theorem dX1_allKnown_28 : decode cX1_allKnown 28 = .ok (.istore_n 1, 1) := by decide +kernel
theorem dX1_allKnown_29 : decode cX1_allKnown 29 = .ok (.iinc 3 1, 3) := by decide +kernel
theorem dX1_allKnown_32 : decode cX1_allKnown 32 = .ok (.goto (-18), 3) := by decide +kernel
theorem dX1_allKnown_35 : decode cX1_allKnown 35 = .ok (.iinc 2 1, 3) := by decide +kernel
theorem dX1_allKnown_38 : decode cX1_allKnown 38 = .ok (.goto (-34), 3) := by decide +kernel
theorem dX1_allKnown_41 : decode cX1_allKnown 41 = .ok (.iload_n 1, 1) := by decide +kernel
theorem dX1_allKnown_42 : decode cX1_allKnown 42 = .ok (.ireturn, 1) := by decide +kernel
theorem dX2_needs_0 : decode cX2_needs 0 = .ok (.iload_n 0, 1) := by decide +kernel
theorem dX2_needs_1 : decode cX2_needs 1 = .ok (.lookupswitch 31 #[(2, 27), (3, 29)], 27) := by decide +kernel
theorem dX2_needs_28 : decode cX2_needs 28 = .ok (.iconst 2, 1) := by decide +kernel
theorem dX2_needs_29 : decode cX2_needs 29 = .ok (.ireturn, 1) := by decide +kernel
theorem dX2_needs_30 : decode cX2_needs 30 = .ok (.iconst 4, 1) := by decide +kernel
theorem dX2_needs_31 : decode cX2_needs 31 = .ok (.ireturn, 1) := by decide +kernel
theorem dX2_needs_32 : decode cX2_needs 32 = .ok (.iconst 1, 1) := by decide +kernel
theorem dX2_needs_33 : decode cX2_needs 33 = .ok (.ireturn, 1) := by decide +kernel
theorem dX2_catches_0 : decode cX2_catches 0 = .ok (.iload_n 0, 1) := by decide +kernel
theorem dX2_catches_1 : decode cX2_catches 1 = .ok (.tableswitch 44 1 5 #[35, 37, 37, 39, 42], 35) := by decide +kernel
theorem dX2_catches_36 : decode cX2_catches 36 = .ok (.iconst 1, 1) := by decide +kernel
theorem dX2_catches_37 : decode cX2_catches 37 = .ok (.ireturn, 1) := by decide +kernel
theorem dX2_catches_38 : decode cX2_catches 38 = .ok (.iconst 3, 1) := by decide +kernel
theorem dX2_catches_39 : decode cX2_catches 39 = .ok (.ireturn, 1) := by decide +kernel
theorem dX2_catches_40 : decode cX2_catches 40 = .ok (.bipush (-9), 2) := by decide +kernel
theorem dX2_catches_42 : decode cX2_catches 42 = .ok (.ireturn, 1) := by decide +kernel
theorem dX2_catches_43 : decode cX2_catches 43 = .ok (.iconst 4, 1) := by decide +kernel
theorem dX2_catches_44 : decode cX2_catches 44 = .ok (.ireturn, 1) := by decide +kernel
theorem dX2_catches_45 : decode cX2_catches 45 = .ok (.iconst 2, 1) := by decide +kernel
theorem dX2_catches_46 : decode cX2_catches 46 = .ok (.ireturn, 1) := by decide +kernel
theorem dX2_worth_0 : decode cX2_worth 0 = .ok (.iload_n 0, 1) := by decide +kernel
theorem dX2_worth_1 : decode cX2_worth 1 = .ok (.tableswitch 47 2 5 #[31, 36, 43, 45], 31) := by decide +kernel
theorem dX2_worth_32 : decode cX2_worth 32 = .ok (.bipush 6, 2) := by decide +kernel
theorem dX2_worth_34 : decode cX2_worth 34 = .ok (.iload_n 1, 1) := by decide +kernel
theorem dX2_worth_35 : decode cX2_worth 35 = .ok (.iadd, 1) := by decide +kernel
theorem dX2_worth_36 : decode cX2_worth 36 = .ok (.ireturn, 1) := by decide +kernel
theorem dX2_worth_37 : decode cX2_worth 37 = .ok (.iconst 2, 1) := by decide +kernel
theorem dX2_worth_38 : decode cX2_worth 38 = .ok (.bipush 6, 2) := by decide +kernel
theorem dX2_worth_40 : decode cX2_worth 40 = .ok (.iload_n 1, 1) := by decide +kernel
theorem dX2_worth_41 : decode cX2_worth 41 = .ok (.iadd, 1) := by decide +kernel
theorem dX2_worth_42 : decode cX2_worth 42 = .ok (.imul, 1) := by decide +kernel
theorem dX2_worth_43 : decode cX2_worth 43 = .ok (.ireturn, 1) := by decide +kernel
theorem dX2_worth_44 : decode cX2_worth 44 = .ok (.iconst 0, 1) := by decide +kernel
theorem dX2_worth_45 : decode cX2_worth 45 = .ok (.ireturn, 1) := by decide +kernel
theorem dX2_worth_46 : decode cX2_worth 46 = .ok (.iload_n 1, 1) := by decide +kernel
theorem dX2_worth_47 : decode cX2_worth 47 = .ok (.ireturn, 1) := by decide +kernel
theorem dX2_worth_48 : decode cX2_worth 48 = .ok (.iconst 1, 1) := by decide +kernel
theorem dX2_worth_49 : decode cX2_worth 49 = .ok (.iload_n 1, 1) := by decide +kernel
theorem dX2_worth_50 : decode cX2_worth 50 = .ok (.iadd, 1) := by decide +kernel
theorem dX2_worth_51 : decode cX2_worth 51 = .ok (.ireturn, 1) := by decide +kernel
theorem dX3_init_0 : decode cX3_init 0 = .ok (.aload_n 0, 1) := by decide +kernel
theorem dX3_init_1 : decode cX3_init 1 = .ok (.invokespecial 3, 3) := by decide +kernel
theorem dX3_init_4 : decode cX3_init 4 = .ok (.aload_n 0, 1) := by decide +kernel
theorem dX3_init_5 : decode cX3_init 5 = .ok (.iconst 0, 1) := by decide +kernel
theorem dX3_init_6 : decode cX3_init 6 = .ok (.iload_n 1, 1) := by decide +kernel
theorem dX3_init_7 : decode cX3_init 7 = .ok (.invokestatic 9, 3) := by decide +kernel
theorem dX3_init_10 : decode cX3_init 10 = .ok (.newarray .int, 2) := by decide +kernel
theorem dX3_init_12 : decode cX3_init 12 = .ok (.putfield 15, 3) := by decide +kernel
theorem dX3_init_15 : decode cX3_init 15 = .ok (.aload_n 0, 1) := by decide +kernel
theorem dX3_init_16 : decode cX3_init 16 = .ok (.iconst 0, 1) := by decide +kernel
theorem dX3_init_17 : decode cX3_init 17 = .ok (.putfield 21, 3) := by decide +kernel
theorem dX3_init_20 : decode cX3_init 20 = .ok (.return_, 1) := by decide +kernel
theorem dX3_isFull_0 : decode cX3_isFull 0 = .ok (.aload_n 0, 1) := by decide +kernel
theorem dX3_isFull_1 : decode cX3_isFull 1 = .ok (.getfield 21, 3) := by decide +kernel
theorem dX3_isFull_4 : decode cX3_isFull 4 = .ok (.aload_n 0, 1) := by decide +kernel
theorem dX3_isFull_5 : decode cX3_isFull 5 = .ok (.getfield 15, 3) := by decide +kernel
theorem dX3_isFull_8 : decode cX3_isFull 8 = .ok (.arraylength, 1) := by decide +kernel
theorem dX3_isFull_9 : decode cX3_isFull 9 = .ok (.if_icmp .lt 7, 3) := by decide +kernel
theorem dX3_isFull_12 : decode cX3_isFull 12 = .ok (.iconst 1, 1) := by decide +kernel
theorem dX3_isFull_13 : decode cX3_isFull 13 = .ok (.goto 4, 3) := by decide +kernel
theorem dX3_isFull_16 : decode cX3_isFull 16 = .ok (.iconst 0, 1) := by decide +kernel
theorem dX3_isFull_17 : decode cX3_isFull 17 = .ok (.ireturn, 1) := by decide +kernel
theorem dX3_add_0 : decode cX3_add 0 = .ok (.aload_n 0, 1) := by decide +kernel
theorem dX3_add_1 : decode cX3_add 1 = .ok (.getfield 21, 3) := by decide +kernel
theorem dX3_add_4 : decode cX3_add 4 = .ok (.ifCond .lt 35, 3) := by decide +kernel
theorem dX3_add_7 : decode cX3_add 7 = .ok (.aload_n 0, 1) := by decide +kernel
theorem dX3_add_8 : decode cX3_add 8 = .ok (.getfield 21, 3) := by decide +kernel
theorem dX3_add_11 : decode cX3_add 11 = .ok (.aload_n 0, 1) := by decide +kernel
theorem dX3_add_12 : decode cX3_add 12 = .ok (.getfield 15, 3) := by decide +kernel
theorem dX3_add_15 : decode cX3_add 15 = .ok (.arraylength, 1) := by decide +kernel
theorem dX3_add_16 : decode cX3_add 16 = .ok (.if_icmp .ge 23, 3) := by decide +kernel
theorem dX3_add_19 : decode cX3_add 19 = .ok (.aload_n 0, 1) := by decide +kernel
theorem dX3_add_20 : decode cX3_add 20 = .ok (.getfield 15, 3) := by decide +kernel
theorem dX3_add_23 : decode cX3_add 23 = .ok (.aload_n 0, 1) := by decide +kernel
theorem dX3_add_24 : decode cX3_add 24 = .ok (.getfield 21, 3) := by decide +kernel
theorem dX3_add_27 : decode cX3_add 27 = .ok (.iload_n 1, 1) := by decide +kernel
theorem dX3_add_28 : decode cX3_add 28 = .ok (.iastore, 1) := by decide +kernel
theorem dX3_add_29 : decode cX3_add 29 = .ok (.aload_n 0, 1) := by decide +kernel
theorem dX3_add_30 : decode cX3_add 30 = .ok (.dup, 1) := by decide +kernel
theorem dX3_add_31 : decode cX3_add 31 = .ok (.getfield 21, 3) := by decide +kernel
theorem dX3_add_34 : decode cX3_add 34 = .ok (.iconst 1, 1) := by decide +kernel
theorem dX3_add_35 : decode cX3_add 35 = .ok (.iadd, 1) := by decide +kernel
theorem dX3_add_36 : decode cX3_add 36 = .ok (.putfield 21, 3) := by decide +kernel
theorem dX3_add_39 : decode cX3_add 39 = .ok (.aload_n 0, 1) := by decide +kernel
theorem dX3_add_40 : decode cX3_add 40 = .ok (.getfield 21, 3) := by decide +kernel
theorem dX3_add_43 : decode cX3_add 43 = .ok (.ireturn, 1) := by decide +kernel
theorem dX3_at_0 : decode cX3_at 0 = .ok (.iload_n 1, 1) := by decide +kernel
theorem dX3_at_1 : decode cX3_at 1 = .ok (.ifCond .lt 29, 3) := by decide +kernel
theorem dX3_at_4 : decode cX3_at 4 = .ok (.iload_n 1, 1) := by decide +kernel
theorem dX3_at_5 : decode cX3_at 5 = .ok (.aload_n 0, 1) := by decide +kernel
theorem dX3_at_6 : decode cX3_at 6 = .ok (.getfield 21, 3) := by decide +kernel
theorem dX3_at_9 : decode cX3_at 9 = .ok (.if_icmp .ge 21, 3) := by decide +kernel
theorem dX3_at_12 : decode cX3_at 12 = .ok (.iload_n 1, 1) := by decide +kernel
theorem dX3_at_13 : decode cX3_at 13 = .ok (.aload_n 0, 1) := by decide +kernel
theorem dX3_at_14 : decode cX3_at 14 = .ok (.getfield 15, 3) := by decide +kernel
theorem dX3_at_17 : decode cX3_at 17 = .ok (.arraylength, 1) := by decide +kernel
theorem dX3_at_18 : decode cX3_at 18 = .ok (.if_icmp .ge 12, 3) := by decide +kernel
theorem dX3_at_21 : decode cX3_at 21 = .ok (.aload_n 0, 1) := by decide +kernel
theorem dX3_at_22 : decode cX3_at 22 = .ok (.getfield 15, 3) := by decide +kernel
theorem dX3_at_25 : decode cX3_at 25 = .ok (.iload_n 1, 1) := by decide +kernel
theorem dX3_at_26 : decode cX3_at 26 = .ok (.iaload, 1) := by decide +kernel
theorem dX3_at_27 : decode cX3_at 27 = .ok (.goto 5, 3) := by decide +kernel
theorem dX3_at_30 : decode cX3_at 30 = .ok (.bipush (-9), 2) := by decide +kernel
theorem dX3_at_32 : decode cX3_at 32 = .ok (.ireturn, 1) := by decide +kernel
theorem dX3_forget_0 : decode cX3_forget 0 = .ok (.aload_n 0, 1) := by decide +kernel
theorem dX3_forget_1 : decode cX3_forget 1 = .ok (.iconst 0, 1) := by decide +kernel
theorem dX3_forget_2 : decode cX3_forget 2 = .ok (.putfield 21, 3) := by decide +kernel
theorem dX3_forget_5 : decode cX3_forget 5 = .ok (.return_, 1) := by decide +kernel
theorem dX4_init_0 : decode cX4_init 0 = .ok (.aload_n 0, 1) := by decide +kernel
theorem dX4_init_1 : decode cX4_init 1 = .ok (.invokespecial 3, 3) := by decide +kernel
theorem dX4_init_4 : decode cX4_init 4 = .ok (.aload_n 0, 1) := by decide +kernel
theorem dX4_init_5 : decode cX4_init 5 = .ok (.new 9, 3) := by decide +kernel
theorem dX4_init_8 : decode cX4_init 8 = .ok (.dup, 1) := by decide +kernel
theorem dX4_init_9 : decode cX4_init 9 = .ok (.bipush 96, 2) := by decide +kernel
theorem dX4_init_11 : decode cX4_init 11 = .ok (.invokespecial 11, 3) := by decide +kernel
theorem dX4_init_14 : decode cX4_init 14 = .ok (.putfield 14, 3) := by decide +kernel
theorem dX4_init_17 : decode cX4_init 17 = .ok (.return_, 1) := by decide +kernel
theorem dX4_tellTo_0 : decode cX4_tellTo 0 = .ok (.aload_n 0, 1) := by decide +kernel
theorem dX4_tellTo_1 : decode cX4_tellTo 1 = .ok (.invokevirtual 20, 3) := by decide +kernel
theorem dX4_tellTo_4 : decode cX4_tellTo 4 = .ok (.istore_n 2, 1) := by decide +kernel
theorem dX4_tellTo_5 : decode cX4_tellTo 5 = .ok (.iload_n 2, 1) := by decide +kernel
theorem dX4_tellTo_6 : decode cX4_tellTo 6 = .ok (.bipush (-9), 2) := by decide +kernel
theorem dX4_tellTo_8 : decode cX4_tellTo 8 = .ok (.if_icmp .eq 9, 3) := by decide +kernel
theorem dX4_tellTo_11 : decode cX4_tellTo 11 = .ok (.sipush (-1000), 3) := by decide +kernel
theorem dX4_tellTo_14 : decode cX4_tellTo 14 = .ok (.iload_n 2, 1) := by decide +kernel
theorem dX4_tellTo_15 : decode cX4_tellTo 15 = .ok (.isub, 1) := by decide +kernel
theorem dX4_tellTo_16 : decode cX4_tellTo 16 = .ok (.ireturn, 1) := by decide +kernel
theorem dX4_tellTo_17 : decode cX4_tellTo 17 = .ok (.iconst 0, 1) := by decide +kernel
theorem dX4_tellTo_18 : decode cX4_tellTo 18 = .ok (.istore_n 3, 1) := by decide +kernel
theorem dX4_tellTo_19 : decode cX4_tellTo 19 = .ok (.iconst 0, 1) := by decide +kernel
theorem dX4_tellTo_20 : decode cX4_tellTo 20 = .ok (.istore 4, 2) := by decide +kernel
theorem dX4_tellTo_22 : decode cX4_tellTo 22 = .ok (.iload_n 3, 1) := by decide +kernel
theorem dX4_tellTo_23 : decode cX4_tellTo 23 = .ok (.aload_n 0, 1) := by decide +kernel
theorem dX4_tellTo_24 : decode cX4_tellTo 24 = .ok (.getfield 14, 3) := by decide +kernel
theorem dX4_tellTo_27 : decode cX4_tellTo 27 = .ok (.getfield 24, 3) := by decide +kernel
theorem dX4_tellTo_30 : decode cX4_tellTo 30 = .ok (.if_icmp .ge 48, 3) := by decide +kernel
theorem dX4_tellTo_33 : decode cX4_tellTo 33 = .ok (.iload 4, 2) := by decide +kernel
theorem dX4_tellTo_35 : decode cX4_tellTo 35 = .ok (.bipush 96, 2) := by decide +kernel
theorem dX4_tellTo_37 : decode cX4_tellTo 37 = .ok (.if_icmp .ge 41, 3) := by decide +kernel
theorem dX4_tellTo_40 : decode cX4_tellTo 40 = .ok (.aload_n 0, 1) := by decide +kernel
theorem dX4_tellTo_41 : decode cX4_tellTo 41 = .ok (.iload_n 3, 1) := by decide +kernel
theorem dX4_tellTo_42 : decode cX4_tellTo 42 = .ok (.aload_n 1, 1) := by decide +kernel
theorem dX4_tellTo_43 : decode cX4_tellTo 43 = .ok (.invokevirtual 28, 3) := by decide +kernel
theorem dX4_tellTo_46 : decode cX4_tellTo 46 = .ok (.ifCond .ne 9, 3) := by decide +kernel
theorem dX4_tellTo_49 : decode cX4_tellTo 49 = .ok (.sipush (-2000), 3) := by decide +kernel
theorem dX4_tellTo_52 : decode cX4_tellTo 52 = .ok (.iload_n 3, 1) := by decide +kernel
theorem dX4_tellTo_53 : decode cX4_tellTo 53 = .ok (.isub, 1) := by decide +kernel
theorem dX4_tellTo_54 : decode cX4_tellTo 54 = .ok (.ireturn, 1) := by decide +kernel
theorem dX4_tellTo_55 : decode cX4_tellTo 55 = .ok (.iload_n 3, 1) := by decide +kernel
theorem dX4_tellTo_56 : decode cX4_tellTo 56 = .ok (.aload_n 0, 1) := by decide +kernel
theorem dX4_tellTo_57 : decode cX4_tellTo 57 = .ok (.getfield 14, 3) := by decide +kernel
theorem dX4_tellTo_60 : decode cX4_tellTo 60 = .ok (.iload_n 3, 1) := by decide +kernel
theorem dX4_tellTo_61 : decode cX4_tellTo 61 = .ok (.invokevirtual 32, 3) := by decide +kernel
theorem dX4_tellTo_64 : decode cX4_tellTo 64 = .ok (.invokestatic 36, 3) := by decide +kernel
theorem dX4_tellTo_67 : decode cX4_tellTo 67 = .ok (.invokevirtual 40, 3) := by decide +kernel
theorem dX4_tellTo_70 : decode cX4_tellTo 70 = .ok (.iadd, 1) := by decide +kernel
theorem dX4_tellTo_71 : decode cX4_tellTo 71 = .ok (.istore_n 3, 1) := by decide +kernel
theorem dX4_tellTo_72 : decode cX4_tellTo 72 = .ok (.iinc 4 1, 3) := by decide +kernel
theorem dX4_tellTo_75 : decode cX4_tellTo 75 = .ok (.goto (-53), 3) := by decide +kernel
theorem dX4_tellTo_78 : decode cX4_tellTo 78 = .ok (.iload 4, 2) := by decide +kernel
theorem dX4_tellTo_80 : decode cX4_tellTo 80 = .ok (.ireturn, 1) := by decide +kernel
theorem dX4_firstStray_0 : decode cX4_firstStray 0 = .ok (.aload_n 0, 1) := by decide +kernel
theorem dX4_firstStray_1 : decode cX4_firstStray 1 = .ok (.getfield 14, 3) := by decide +kernel
theorem dX4_firstStray_4 : decode cX4_firstStray 4 = .ok (.getfield 24, 3) := by decide +kernel
theorem dX4_firstStray_7 : decode cX4_firstStray 7 = .ok (.ifCond .ne 5, 3) := by decide +kernel
theorem dX4_firstStray_10 : decode cX4_firstStray 10 = .ok (.iconst 0, 1) := by decide +kernel
theorem dX4_firstStray_11 : decode cX4_firstStray 11 = .ok (.ireturn, 1) := by decide +kernel
theorem dX4_firstStray_12 : decode cX4_firstStray 12 = .ok (.iconst 0, 1) := by decide +kernel
theorem dX4_firstStray_13 : decode cX4_firstStray 13 = .ok (.istore_n 1, 1) := by decide +kernel
theorem dX4_firstStray_14 : decode cX4_firstStray 14 = .ok (.iconst 0, 1) := by decide +kernel
theorem dX4_firstStray_15 : decode cX4_firstStray 15 = .ok (.istore_n 2, 1) := by decide +kernel
theorem dX4_firstStray_16 : decode cX4_firstStray 16 = .ok (.iload_n 2, 1) := by decide +kernel
theorem dX4_firstStray_17 : decode cX4_firstStray 17 = .ok (.bipush 96, 2) := by decide +kernel
theorem dX4_firstStray_19 : decode cX4_firstStray 19 = .ok (.if_icmp .ge 66, 3) := by decide +kernel
theorem dX4_firstStray_22 : decode cX4_firstStray 22 = .ok (.iload_n 1, 1) := by decide +kernel
theorem dX4_firstStray_23 : decode cX4_firstStray 23 = .ok (.aload_n 0, 1) := by decide +kernel
theorem dX4_firstStray_24 : decode cX4_firstStray 24 = .ok (.getfield 14, 3) := by decide +kernel
theorem dX4_firstStray_27 : decode cX4_firstStray 27 = .ok (.getfield 24, 3) := by decide +kernel
theorem dX4_firstStray_30 : decode cX4_firstStray 30 = .ok (.if_icmp .ge 55, 3) := by decide +kernel
theorem dX4_firstStray_33 : decode cX4_firstStray 33 = .ok (.aload_n 0, 1) := by decide +kernel
theorem dX4_firstStray_34 : decode cX4_firstStray 34 = .ok (.getfield 14, 3) := by decide +kernel
theorem dX4_firstStray_37 : decode cX4_firstStray 37 = .ok (.iload_n 1, 1) := by decide +kernel
theorem dX4_firstStray_38 : decode cX4_firstStray 38 = .ok (.invokevirtual 32, 3) := by decide +kernel
theorem dX4_firstStray_41 : decode cX4_firstStray 41 = .ok (.invokestatic 36, 3) := by decide +kernel
theorem dX4_firstStray_44 : decode cX4_firstStray 44 = .ok (.astore_n 3, 1) := by decide +kernel
theorem dX4_firstStray_45 : decode cX4_firstStray 45 = .ok (.aload_n 0, 1) := by decide +kernel
theorem dX4_firstStray_46 : decode cX4_firstStray 46 = .ok (.aload_n 3, 1) := by decide +kernel
theorem dX4_firstStray_47 : decode cX4_firstStray 47 = .ok (.iload_n 1, 1) := by decide +kernel
theorem dX4_firstStray_48 : decode cX4_firstStray 48 = .ok (.invokevirtual 45, 3) := by decide +kernel
theorem dX4_firstStray_51 : decode cX4_firstStray 51 = .ok (.istore 4, 2) := by decide +kernel
theorem dX4_firstStray_53 : decode cX4_firstStray 53 = .ok (.aload_n 3, 1) := by decide +kernel
theorem dX4_firstStray_54 : decode cX4_firstStray 54 = .ok (.invokevirtual 49, 3) := by decide +kernel
theorem dX4_firstStray_57 : decode cX4_firstStray 57 = .ok (.ifCond .ne 12, 3) := by decide +kernel
theorem dX4_firstStray_60 : decode cX4_firstStray 60 = .ok (.iload 4, 2) := by decide +kernel
theorem dX4_firstStray_62 : decode cX4_firstStray 62 = .ok (.aload_n 3, 1) := by decide +kernel
theorem dX4_firstStray_63 : decode cX4_firstStray 63 = .ok (.invokevirtual 40, 3) := by decide +kernel
theorem dX4_firstStray_66 : decode cX4_firstStray 66 = .ok (.if_icmp .ge 8, 3) := by decide +kernel
theorem dX4_firstStray_69 : decode cX4_firstStray 69 = .ok (.iload_n 1, 1) := by decide +kernel
theorem dX4_firstStray_70 : decode cX4_firstStray 70 = .ok (.iload 4, 2) := by decide +kernel
theorem dX4_firstStray_72 : decode cX4_firstStray 72 = .ok (.iadd, 1) := by decide +kernel
theorem dX4_firstStray_73 : decode cX4_firstStray 73 = .ok (.ireturn, 1) := by decide +kernel
theorem dX4_firstStray_74 : decode cX4_firstStray 74 = .ok (.iload_n 1, 1) := by decide +kernel
theorem dX4_firstStray_75 : decode cX4_firstStray 75 = .ok (.iload 4, 2) := by decide +kernel
theorem dX4_firstStray_77 : decode cX4_firstStray 77 = .ok (.iadd, 1) := by decide +kernel
theorem dX4_firstStray_78 : decode cX4_firstStray 78 = .ok (.istore_n 1, 1) := by decide +kernel
theorem dX4_firstStray_79 : decode cX4_firstStray 79 = .ok (.iinc 2 1, 3) := by decide +kernel
theorem dX4_firstStray_82 : decode cX4_firstStray 82 = .ok (.goto (-66), 3) := by decide +kernel
theorem dX4_firstStray_85 : decode cX4_firstStray 85 = .ok (.bipush (-9), 2) := by decide +kernel
theorem dX4_firstStray_87 : decode cX4_firstStray 87 = .ok (.ireturn, 1) := by decide +kernel
theorem dX4_fittingLetters_0 : decode cX4_fittingLetters 0 = .ok (.iconst 0, 1) := by decide +kernel
theorem dX4_fittingLetters_1 : decode cX4_fittingLetters 1 = .ok (.istore_n 3, 1) := by decide +kernel
theorem dX4_fittingLetters_2 : decode cX4_fittingLetters 2 = .ok (.iload_n 3, 1) := by decide +kernel
theorem dX4_fittingLetters_3 : decode cX4_fittingLetters 3 = .ok (.aload_n 1, 1) := by decide +kernel
theorem dX4_fittingLetters_4 : decode cX4_fittingLetters 4 = .ok (.invokevirtual 40, 3) := by decide +kernel
theorem dX4_fittingLetters_7 : decode cX4_fittingLetters 7 = .ok (.if_icmp .ge 32, 3) := by decide +kernel
theorem dX4_fittingLetters_10 : decode cX4_fittingLetters 10 = .ok (.aload_n 0, 1) := by decide +kernel
theorem dX4_fittingLetters_11 : decode cX4_fittingLetters 11 = .ok (.getfield 14, 3) := by decide +kernel
theorem dX4_fittingLetters_14 : decode cX4_fittingLetters 14 = .ok (.iload_n 2, 1) := by decide +kernel
theorem dX4_fittingLetters_15 : decode cX4_fittingLetters 15 = .ok (.iload_n 3, 1) := by decide +kernel
theorem dX4_fittingLetters_16 : decode cX4_fittingLetters 16 = .ok (.iadd, 1) := by decide +kernel
theorem dX4_fittingLetters_17 : decode cX4_fittingLetters 17 = .ok (.invokevirtual 32, 3) := by decide +kernel
theorem dX4_fittingLetters_20 : decode cX4_fittingLetters 20 = .ok (.aload_n 1, 1) := by decide +kernel
theorem dX4_fittingLetters_21 : decode cX4_fittingLetters 21 = .ok (.iload_n 3, 1) := by decide +kernel
theorem dX4_fittingLetters_22 : decode cX4_fittingLetters 22 = .ok (.invokevirtual 53, 3) := by decide +kernel
theorem dX4_fittingLetters_25 : decode cX4_fittingLetters 25 = .ok (.invokestatic 57, 3) := by decide +kernel
theorem dX4_fittingLetters_28 : decode cX4_fittingLetters 28 = .ok (.ifCond .ne 5, 3) := by decide +kernel
theorem dX4_fittingLetters_31 : decode cX4_fittingLetters 31 = .ok (.iload_n 3, 1) := by decide +kernel
theorem dX4_fittingLetters_32 : decode cX4_fittingLetters 32 = .ok (.ireturn, 1) := by decide +kernel
theorem dX4_fittingLetters_33 : decode cX4_fittingLetters 33 = .ok (.iinc 3 1, 3) := by decide +kernel
theorem dX4_fittingLetters_36 : decode cX4_fittingLetters 36 = .ok (.goto (-34), 3) := by decide +kernel
theorem dX4_fittingLetters_39 : decode cX4_fittingLetters 39 = .ok (.aload_n 1, 1) := by decide +kernel
theorem dX4_fittingLetters_40 : decode cX4_fittingLetters 40 = .ok (.invokevirtual 40, 3) := by decide +kernel
theorem dX4_fittingLetters_43 : decode cX4_fittingLetters 43 = .ok (.ireturn, 1) := by decide +kernel
theorem dX4_fits_0 : decode cX4_fits 0 = .ok (.iload_n 1, 1) := by decide +kernel
theorem dX4_fits_1 : decode cX4_fits 1 = .ok (.lookupswitch 60 #[(48, 42), (75, 27)], 27) := by decide +kernel
theorem dX4_fits_28 : decode cX4_fits 28 = .ok (.iload_n 0, 1) := by decide +kernel
theorem dX4_fits_29 : decode cX4_fits 29 = .ok (.invokestatic 61, 3) := by decide +kernel
theorem dX4_fits_32 : decode cX4_fits 32 = .ok (.bipush (-9), 2) := by decide +kernel
theorem dX4_fits_34 : decode cX4_fits 34 = .ok (.if_icmp .eq 7, 3) := by decide +kernel
theorem dX4_fits_37 : decode cX4_fits 37 = .ok (.iconst 1, 1) := by decide +kernel
theorem dX4_fits_38 : decode cX4_fits 38 = .ok (.goto 4, 3) := by decide +kernel
theorem dX4_fits_41 : decode cX4_fits 41 = .ok (.iconst 0, 1) := by decide +kernel
theorem dX4_fits_42 : decode cX4_fits 42 = .ok (.ireturn, 1) := by decide +kernel
theorem dX4_fits_43 : decode cX4_fits 43 = .ok (.iload_n 0, 1) := by decide +kernel
theorem dX4_fits_44 : decode cX4_fits 44 = .ok (.bipush 48, 2) := by decide +kernel
theorem dX4_fits_46 : decode cX4_fits 46 = .ok (.if_icmp .lt 13, 3) := by decide +kernel
theorem dX4_fits_49 : decode cX4_fits 49 = .ok (.iload_n 0, 1) := by decide +kernel
theorem dX4_fits_50 : decode cX4_fits 50 = .ok (.bipush 57, 2) := by decide +kernel
theorem dX4_fits_52 : decode cX4_fits 52 = .ok (.if_icmp .gt 7, 3) := by decide +kernel
theorem dX4_fits_55 : decode cX4_fits 55 = .ok (.iconst 1, 1) := by decide +kernel
theorem dX4_fits_56 : decode cX4_fits 56 = .ok (.goto 4, 3) := by decide +kernel
theorem dX4_fits_59 : decode cX4_fits 59 = .ok (.iconst 0, 1) := by decide +kernel
theorem dX4_fits_60 : decode cX4_fits 60 = .ok (.ireturn, 1) := by decide +kernel
theorem dX4_fits_61 : decode cX4_fits 61 = .ok (.iload_n 0, 1) := by decide +kernel
theorem dX4_fits_62 : decode cX4_fits 62 = .ok (.iload_n 1, 1) := by decide +kernel
theorem dX4_fits_63 : decode cX4_fits 63 = .ok (.if_icmp .ne 7, 3) := by decide +kernel
theorem dX4_fits_66 : decode cX4_fits 66 = .ok (.iconst 1, 1) := by decide +kernel
theorem dX4_fits_67 : decode cX4_fits 67 = .ok (.goto 4, 3) := by decide +kernel
theorem dX4_fits_70 : decode cX4_fits 70 = .ok (.iconst 0, 1) := by decide +kernel
theorem dX4_fits_71 : decode cX4_fits 71 = .ok (.ireturn, 1) := by decide +kernel
theorem dX4_formOf_0 : decode cX4_formOf 0 = .ok (.iload_n 0, 1) := by decide +kernel
theorem dX4_formOf_1 : decode cX4_formOf 1 = .ok (.tableswitch 78 107 118 #[72, 78, 78, 75, 78, 69, 78, 63, 78, 78, 78, 66], 63) := by decide +kernel
theorem dX4_formOf_64 : decode cX4_formOf 64 = .ok (.ldc 64, 2) := by decide +kernel
theorem dX4_formOf_66 : decode cX4_formOf 66 = .ok (.areturn, 1) := by decide +kernel
theorem dX4_formOf_67 : decode cX4_formOf 67 = .ok (.ldc 66, 2) := by decide +kernel
theorem dX4_formOf_69 : decode cX4_formOf 69 = .ok (.areturn, 1) := by decide +kernel
theorem dX4_formOf_70 : decode cX4_formOf 70 = .ok (.ldc 68, 2) := by decide +kernel
theorem dX4_formOf_72 : decode cX4_formOf 72 = .ok (.areturn, 1) := by decide +kernel
theorem dX4_formOf_73 : decode cX4_formOf 73 = .ok (.ldc 70, 2) := by decide +kernel
theorem dX4_formOf_75 : decode cX4_formOf 75 = .ok (.areturn, 1) := by decide +kernel
theorem dX4_formOf_76 : decode cX4_formOf 76 = .ok (.ldc 72, 2) := by decide +kernel
theorem dX4_formOf_78 : decode cX4_formOf 78 = .ok (.areturn, 1) := by decide +kernel
theorem dX4_formOf_79 : decode cX4_formOf 79 = .ok (.ldc 74, 2) := by decide +kernel
theorem dX4_formOf_81 : decode cX4_formOf 81 = .ok (.areturn, 1) := by decide +kernel
theorem dX4_tellStatement_0 : decode cX4_tellStatement 0 = .ok (.aload_n 0, 1) := by decide +kernel
theorem dX4_tellStatement_1 : decode cX4_tellStatement 1 = .ok (.getfield 14, 3) := by decide +kernel
theorem dX4_tellStatement_4 : decode cX4_tellStatement 4 = .ok (.iload_n 1, 1) := by decide +kernel
theorem dX4_tellStatement_5 : decode cX4_tellStatement 5 = .ok (.invokevirtual 32, 3) := by decide +kernel
theorem dX4_tellStatement_8 : decode cX4_tellStatement 8 = .ok (.tableswitch 157 107 118 #[138, 157, 157, 145, 157, 107, 157, 64, 157, 157, 157, 85], 64) := by decide +kernel
theorem dX4_tellStatement_72 : decode cX4_tellStatement 72 = .ok (.aload_n 0, 1) := by decide +kernel
theorem dX4_tellStatement_73 : decode cX4_tellStatement 73 = .ok (.iload_n 1, 1) := by decide +kernel
theorem dX4_tellStatement_74 : decode cX4_tellStatement 74 = .ok (.aload_n 0, 1) := by decide +kernel
theorem dX4_tellStatement_75 : decode cX4_tellStatement 75 = .ok (.iload_n 1, 1) := by decide +kernel
theorem dX4_tellStatement_76 : decode cX4_tellStatement 76 = .ok (.iconst 2, 1) := by decide +kernel
theorem dX4_tellStatement_77 : decode cX4_tellStatement 77 = .ok (.iadd, 1) := by decide +kernel
theorem dX4_tellStatement_78 : decode cX4_tellStatement 78 = .ok (.invokevirtual 76, 3) := by decide +kernel
theorem dX4_tellStatement_81 : decode cX4_tellStatement 81 = .ok (.aload_n 0, 1) := by decide +kernel
theorem dX4_tellStatement_82 : decode cX4_tellStatement 82 = .ok (.iload_n 1, 1) := by decide +kernel
theorem dX4_tellStatement_83 : decode cX4_tellStatement 83 = .ok (.iconst 4, 1) := by decide +kernel
theorem dX4_tellStatement_84 : decode cX4_tellStatement 84 = .ok (.iadd, 1) := by decide +kernel
theorem dX4_tellStatement_85 : decode cX4_tellStatement 85 = .ok (.invokevirtual 79, 3) := by decide +kernel
theorem dX4_tellStatement_88 : decode cX4_tellStatement 88 = .ok (.aload_n 2, 1) := by decide +kernel
theorem dX4_tellStatement_89 : decode cX4_tellStatement 89 = .ok (.invokevirtual 82, 3) := by decide +kernel
theorem dX4_tellStatement_92 : decode cX4_tellStatement 92 = .ok (.ireturn, 1) := by decide +kernel
theorem dX4_tellStatement_93 : decode cX4_tellStatement 93 = .ok (.aload_n 0, 1) := by decide +kernel
theorem dX4_tellStatement_94 : decode cX4_tellStatement 94 = .ok (.iload_n 1, 1) := by decide +kernel
theorem dX4_tellStatement_95 : decode cX4_tellStatement 95 = .ok (.aload_n 0, 1) := by decide +kernel
theorem dX4_tellStatement_96 : decode cX4_tellStatement 96 = .ok (.iload_n 1, 1) := by decide +kernel
theorem dX4_tellStatement_97 : decode cX4_tellStatement 97 = .ok (.iconst 4, 1) := by decide +kernel
theorem dX4_tellStatement_98 : decode cX4_tellStatement 98 = .ok (.iadd, 1) := by decide +kernel
theorem dX4_tellStatement_99 : decode cX4_tellStatement 99 = .ok (.invokevirtual 76, 3) := by decide +kernel
theorem dX4_tellStatement_102 : decode cX4_tellStatement 102 = .ok (.aload_n 0, 1) := by decide +kernel
theorem dX4_tellStatement_103 : decode cX4_tellStatement 103 = .ok (.iload_n 1, 1) := by decide +kernel
theorem dX4_tellStatement_104 : decode cX4_tellStatement 104 = .ok (.bipush 6, 2) := by decide +kernel
theorem dX4_tellStatement_106 : decode cX4_tellStatement 106 = .ok (.iadd, 1) := by decide +kernel
theorem dX4_tellStatement_107 : decode cX4_tellStatement 107 = .ok (.invokevirtual 79, 3) := by decide +kernel
theorem dX4_tellStatement_110 : decode cX4_tellStatement 110 = .ok (.aload_n 2, 1) := by decide +kernel
theorem dX4_tellStatement_111 : decode cX4_tellStatement 111 = .ok (.invokevirtual 82, 3) := by decide +kernel
theorem dX4_tellStatement_114 : decode cX4_tellStatement 114 = .ok (.ireturn, 1) := by decide +kernel
theorem dX4_tellStatement_115 : decode cX4_tellStatement 115 = .ok (.aload_n 0, 1) := by decide +kernel
theorem dX4_tellStatement_116 : decode cX4_tellStatement 116 = .ok (.iload_n 1, 1) := by decide +kernel
theorem dX4_tellStatement_117 : decode cX4_tellStatement 117 = .ok (.iconst 1, 1) := by decide +kernel
theorem dX4_tellStatement_118 : decode cX4_tellStatement 118 = .ok (.iadd, 1) := by decide +kernel
theorem dX4_tellStatement_119 : decode cX4_tellStatement 119 = .ok (.invokevirtual 79, 3) := by decide +kernel
theorem dX4_tellStatement_122 : decode cX4_tellStatement 122 = .ok (.iconst 1, 1) := by decide +kernel
theorem dX4_tellStatement_123 : decode cX4_tellStatement 123 = .ok (.if_icmp .lt 21, 3) := by decide +kernel
theorem dX4_tellStatement_126 : decode cX4_tellStatement 126 = .ok (.aload_n 2, 1) := by decide +kernel
theorem dX4_tellStatement_127 : decode cX4_tellStatement 127 = .ok (.aload_n 0, 1) := by decide +kernel
theorem dX4_tellStatement_128 : decode cX4_tellStatement 128 = .ok (.iload_n 1, 1) := by decide +kernel
theorem dX4_tellStatement_129 : decode cX4_tellStatement 129 = .ok (.iconst 1, 1) := by decide +kernel
theorem dX4_tellStatement_130 : decode cX4_tellStatement 130 = .ok (.iadd, 1) := by decide +kernel
theorem dX4_tellStatement_131 : decode cX4_tellStatement 131 = .ok (.invokevirtual 79, 3) := by decide +kernel
theorem dX4_tellStatement_134 : decode cX4_tellStatement 134 = .ok (.invokevirtual 86, 3) := by decide +kernel
theorem dX4_tellStatement_137 : decode cX4_tellStatement 137 = .ok (.ifCond .eq 7, 3) := by decide +kernel
theorem dX4_tellStatement_140 : decode cX4_tellStatement 140 = .ok (.iconst 1, 1) := by decide +kernel
theorem dX4_tellStatement_141 : decode cX4_tellStatement 141 = .ok (.goto 4, 3) := by decide +kernel
theorem dX4_tellStatement_144 : decode cX4_tellStatement 144 = .ok (.iconst 0, 1) := by decide +kernel
theorem dX4_tellStatement_145 : decode cX4_tellStatement 145 = .ok (.ireturn, 1) := by decide +kernel
theorem dX4_tellStatement_146 : decode cX4_tellStatement 146 = .ok (.aload_n 0, 1) := by decide +kernel
theorem dX4_tellStatement_147 : decode cX4_tellStatement 147 = .ok (.iload_n 1, 1) := by decide +kernel
theorem dX4_tellStatement_148 : decode cX4_tellStatement 148 = .ok (.aload_n 2, 1) := by decide +kernel
theorem dX4_tellStatement_149 : decode cX4_tellStatement 149 = .ok (.invokevirtual 92, 3) := by decide +kernel
theorem dX4_tellStatement_152 : decode cX4_tellStatement 152 = .ok (.ireturn, 1) := by decide +kernel
theorem dX4_tellStatement_153 : decode cX4_tellStatement 153 = .ok (.aload_n 0, 1) := by decide +kernel
theorem dX4_tellStatement_154 : decode cX4_tellStatement 154 = .ok (.iload_n 1, 1) := by decide +kernel
theorem dX4_tellStatement_155 : decode cX4_tellStatement 155 = .ok (.iconst 1, 1) := by decide +kernel
theorem dX4_tellStatement_156 : decode cX4_tellStatement 156 = .ok (.iadd, 1) := by decide +kernel
theorem dX4_tellStatement_157 : decode cX4_tellStatement 157 = .ok (.invokevirtual 76, 3) := by decide +kernel
theorem dX4_tellStatement_160 : decode cX4_tellStatement 160 = .ok (.aload_n 2, 1) := by decide +kernel
theorem dX4_tellStatement_161 : decode cX4_tellStatement 161 = .ok (.invokestatic 95, 3) := by decide +kernel
theorem dX4_tellStatement_164 : decode cX4_tellStatement 164 = .ok (.ireturn, 1) := by decide +kernel
theorem dX4_tellStatement_165 : decode cX4_tellStatement 165 = .ok (.iconst 0, 1) := by decide +kernel
theorem dX4_tellStatement_166 : decode cX4_tellStatement 166 = .ok (.ireturn, 1) := by decide +kernel
theorem dX4_tellThings_0 : decode cX4_tellThings 0 = .ok (.aload_n 0, 1) := by decide +kernel
theorem dX4_tellThings_1 : decode cX4_tellThings 1 = .ok (.getfield 14, 3) := by decide +kernel
theorem dX4_tellThings_4 : decode cX4_tellThings 4 = .ok (.iload_n 1, 1) := by decide +kernel
theorem dX4_tellThings_5 : decode cX4_tellThings 5 = .ok (.iconst 1, 1) := by decide +kernel
theorem dX4_tellThings_6 : decode cX4_tellThings 6 = .ok (.iadd, 1) := by decide +kernel
theorem dX4_tellThings_7 : decode cX4_tellThings 7 = .ok (.invokevirtual 32, 3) := by decide +kernel
theorem dX4_tellThings_10 : decode cX4_tellThings 10 = .ok (.invokestatic 61, 3) := by decide +kernel
theorem dX4_tellThings_13 : decode cX4_tellThings 13 = .ok (.istore 5, 2) := by decide +kernel
theorem dX4_tellThings_15 : decode cX4_tellThings 15 = .ok (.aload_n 0, 1) := by decide +kernel
theorem dX4_tellThings_16 : decode cX4_tellThings 16 = .ok (.iload_n 1, 1) := by decide +kernel
theorem dX4_tellThings_17 : decode cX4_tellThings 17 = .ok (.iconst 2, 1) := by decide +kernel
theorem dX4_tellThings_18 : decode cX4_tellThings 18 = .ok (.iadd, 1) := by decide +kernel
theorem dX4_tellThings_19 : decode cX4_tellThings 19 = .ok (.invokevirtual 76, 3) := by decide +kernel
theorem dX4_tellThings_22 : decode cX4_tellThings 22 = .ok (.istore 6, 2) := by decide +kernel
theorem dX4_tellThings_24 : decode cX4_tellThings 24 = .ok (.iload 6, 2) := by decide +kernel
theorem dX4_tellThings_26 : decode cX4_tellThings 26 = .ok (.iload_n 2, 1) := by decide +kernel
theorem dX4_tellThings_27 : decode cX4_tellThings 27 = .ok (.if_icmp .gt 9, 3) := by decide +kernel
theorem dX4_tellThings_30 : decode cX4_tellThings 30 = .ok (.iload_n 2, 1) := by decide +kernel
theorem dX4_tellThings_31 : decode cX4_tellThings 31 = .ok (.bipush 25, 2) := by decide +kernel
theorem dX4_tellThings_33 : decode cX4_tellThings 33 = .ok (.if_icmp .lt 5, 3) := by decide +kernel
theorem dX4_tellThings_36 : decode cX4_tellThings 36 = .ok (.iconst 0, 1) := by decide +kernel
theorem dX4_tellThings_37 : decode cX4_tellThings 37 = .ok (.ireturn, 1) := by decide +kernel
theorem dX4_tellThings_38 : decode cX4_tellThings 38 = .ok (.iload 6, 2) := by decide +kernel
theorem dX4_tellThings_40 : decode cX4_tellThings 40 = .ok (.istore 7, 2) := by decide +kernel
theorem dX4_tellThings_42 : decode cX4_tellThings 42 = .ok (.iload 7, 2) := by decide +kernel
theorem dX4_tellThings_44 : decode cX4_tellThings 44 = .ok (.iload_n 2, 1) := by decide +kernel
theorem dX4_tellThings_45 : decode cX4_tellThings 45 = .ok (.if_icmp .gt 19, 3) := by decide +kernel
theorem dX4_tellThings_48 : decode cX4_tellThings 48 = .ok (.aload 4, 2) := by decide +kernel
theorem dX4_tellThings_50 : decode cX4_tellThings 50 = .ok (.iload 7, 2) := by decide +kernel
theorem dX4_tellThings_52 : decode cX4_tellThings 52 = .ok (.iload 5, 2) := by decide +kernel
theorem dX4_tellThings_54 : decode cX4_tellThings 54 = .ok (.iload_n 3, 1) := by decide +kernel
theorem dX4_tellThings_55 : decode cX4_tellThings 55 = .ok (.invokevirtual 98, 3) := by decide +kernel
theorem dX4_tellThings_58 : decode cX4_tellThings 58 = .ok (.iinc 7 1, 3) := by decide +kernel
theorem dX4_tellThings_61 : decode cX4_tellThings 61 = .ok (.goto (-19), 3) := by decide +kernel
theorem dX4_tellThings_64 : decode cX4_tellThings 64 = .ok (.iconst 1, 1) := by decide +kernel
theorem dX4_tellThings_65 : decode cX4_tellThings 65 = .ok (.ireturn, 1) := by decide +kernel
theorem dX4_tellKnown_0 : decode cX4_tellKnown 0 = .ok (.aload_n 0, 1) := by decide +kernel
theorem dX4_tellKnown_1 : decode cX4_tellKnown 1 = .ok (.iload_n 1, 1) := by decide +kernel
theorem dX4_tellKnown_2 : decode cX4_tellKnown 2 = .ok (.iconst 1, 1) := by decide +kernel
theorem dX4_tellKnown_3 : decode cX4_tellKnown 3 = .ok (.iadd, 1) := by decide +kernel
theorem dX4_tellKnown_4 : decode cX4_tellKnown 4 = .ok (.invokevirtual 79, 3) := by decide +kernel
theorem dX4_tellKnown_7 : decode cX4_tellKnown 7 = .ok (.istore_n 3, 1) := by decide +kernel
theorem dX4_tellKnown_8 : decode cX4_tellKnown 8 = .ok (.aload_n 0, 1) := by decide +kernel
theorem dX4_tellKnown_9 : decode cX4_tellKnown 9 = .ok (.iload_n 1, 1) := by decide +kernel
theorem dX4_tellKnown_10 : decode cX4_tellKnown 10 = .ok (.iconst 2, 1) := by decide +kernel
theorem dX4_tellKnown_11 : decode cX4_tellKnown 11 = .ok (.iadd, 1) := by decide +kernel
theorem dX4_tellKnown_12 : decode cX4_tellKnown 12 = .ok (.invokevirtual 76, 3) := by decide +kernel
theorem dX4_tellKnown_15 : decode cX4_tellKnown 15 = .ok (.istore 4, 2) := by decide +kernel
theorem dX4_tellKnown_17 : decode cX4_tellKnown 17 = .ok (.aload_n 0, 1) := by decide +kernel
theorem dX4_tellKnown_18 : decode cX4_tellKnown 18 = .ok (.iload_n 1, 1) := by decide +kernel
theorem dX4_tellKnown_19 : decode cX4_tellKnown 19 = .ok (.iconst 4, 1) := by decide +kernel
theorem dX4_tellKnown_20 : decode cX4_tellKnown 20 = .ok (.iadd, 1) := by decide +kernel
theorem dX4_tellKnown_21 : decode cX4_tellKnown 21 = .ok (.invokevirtual 76, 3) := by decide +kernel
theorem dX4_tellKnown_24 : decode cX4_tellKnown 24 = .ok (.istore 5, 2) := by decide +kernel
theorem dX4_tellKnown_26 : decode cX4_tellKnown 26 = .ok (.aload_n 2, 1) := by decide +kernel
theorem dX4_tellKnown_27 : decode cX4_tellKnown 27 = .ok (.iload_n 3, 1) := by decide +kernel
theorem dX4_tellKnown_28 : decode cX4_tellKnown 28 = .ok (.invokevirtual 102, 3) := by decide +kernel
theorem dX4_tellKnown_31 : decode cX4_tellKnown 31 = .ok (.ifCond .eq 17, 3) := by decide +kernel
theorem dX4_tellKnown_34 : decode cX4_tellKnown 34 = .ok (.iload 4, 2) := by decide +kernel
theorem dX4_tellKnown_36 : decode cX4_tellKnown 36 = .ok (.iload 5, 2) := by decide +kernel
theorem dX4_tellKnown_38 : decode cX4_tellKnown 38 = .ok (.if_icmp .gt 10, 3) := by decide +kernel
theorem dX4_tellKnown_41 : decode cX4_tellKnown 41 = .ok (.iload 5, 2) := by decide +kernel
theorem dX4_tellKnown_43 : decode cX4_tellKnown 43 = .ok (.bipush 25, 2) := by decide +kernel
theorem dX4_tellKnown_45 : decode cX4_tellKnown 45 = .ok (.if_icmp .lt 5, 3) := by decide +kernel
theorem dX4_tellKnown_48 : decode cX4_tellKnown 48 = .ok (.iconst 0, 1) := by decide +kernel
theorem dX4_tellKnown_49 : decode cX4_tellKnown 49 = .ok (.ireturn, 1) := by decide +kernel
theorem dX4_tellKnown_50 : decode cX4_tellKnown 50 = .ok (.iload 4, 2) := by decide +kernel
theorem dX4_tellKnown_52 : decode cX4_tellKnown 52 = .ok (.istore 6, 2) := by decide +kernel
theorem dX4_tellKnown_54 : decode cX4_tellKnown 54 = .ok (.iload 6, 2) := by decide +kernel
theorem dX4_tellKnown_56 : decode cX4_tellKnown 56 = .ok (.iload 5, 2) := by decide +kernel
theorem dX4_tellKnown_58 : decode cX4_tellKnown 58 = .ok (.if_icmp .gt 24, 3) := by decide +kernel
theorem dX4_tellKnown_61 : decode cX4_tellKnown 61 = .ok (.aload_n 2, 1) := by decide +kernel
theorem dX4_tellKnown_62 : decode cX4_tellKnown 62 = .ok (.iload_n 3, 1) := by decide +kernel
theorem dX4_tellKnown_63 : decode cX4_tellKnown 63 = .ok (.iload 6, 2) := by decide +kernel
theorem dX4_tellKnown_65 : decode cX4_tellKnown 65 = .ok (.aload_n 0, 1) := by decide +kernel
theorem dX4_tellKnown_66 : decode cX4_tellKnown 66 = .ok (.iload_n 1, 1) := by decide +kernel
theorem dX4_tellKnown_67 : decode cX4_tellKnown 67 = .ok (.bipush 6, 2) := by decide +kernel
theorem dX4_tellKnown_69 : decode cX4_tellKnown 69 = .ok (.iadd, 1) := by decide +kernel
theorem dX4_tellKnown_70 : decode cX4_tellKnown 70 = .ok (.invokevirtual 79, 3) := by decide +kernel
theorem dX4_tellKnown_73 : decode cX4_tellKnown 73 = .ok (.invokevirtual 105, 3) := by decide +kernel
theorem dX4_tellKnown_76 : decode cX4_tellKnown 76 = .ok (.iinc 6 1, 3) := by decide +kernel
theorem dX4_tellKnown_79 : decode cX4_tellKnown 79 = .ok (.goto (-25), 3) := by decide +kernel
theorem dX4_tellKnown_82 : decode cX4_tellKnown 82 = .ok (.iconst 1, 1) := by decide +kernel
theorem dX4_tellKnown_83 : decode cX4_tellKnown 83 = .ok (.ireturn, 1) := by decide +kernel
theorem dX4_tellNights_0 : decode cX4_tellNights 0 = .ok (.iload_n 0, 1) := by decide +kernel
theorem dX4_tellNights_1 : decode cX4_tellNights 1 = .ok (.iconst 1, 1) := by decide +kernel
theorem dX4_tellNights_2 : decode cX4_tellNights 2 = .ok (.if_icmp .lt 21, 3) := by decide +kernel
theorem dX4_tellNights_5 : decode cX4_tellNights 5 = .ok (.iload_n 0, 1) := by decide +kernel
theorem dX4_tellNights_6 : decode cX4_tellNights 6 = .ok (.bipush 60, 2) := by decide +kernel
theorem dX4_tellNights_8 : decode cX4_tellNights 8 = .ok (.if_icmp .gt 15, 3) := by decide +kernel
theorem dX4_tellNights_11 : decode cX4_tellNights 11 = .ok (.aload_n 1, 1) := by decide +kernel
theorem dX4_tellNights_12 : decode cX4_tellNights 12 = .ok (.getfield 108, 3) := by decide +kernel
theorem dX4_tellNights_15 : decode cX4_tellNights 15 = .ok (.iload_n 0, 1) := by decide +kernel
theorem dX4_tellNights_16 : decode cX4_tellNights 16 = .ok (.iadd, 1) := by decide +kernel
theorem dX4_tellNights_17 : decode cX4_tellNights 17 = .ok (.sipush 999, 3) := by decide +kernel
theorem dX4_tellNights_20 : decode cX4_tellNights 20 = .ok (.if_icmp .le 5, 3) := by decide +kernel
theorem dX4_tellNights_23 : decode cX4_tellNights 23 = .ok (.iconst 0, 1) := by decide +kernel
theorem dX4_tellNights_24 : decode cX4_tellNights 24 = .ok (.ireturn, 1) := by decide +kernel
theorem dX4_tellNights_25 : decode cX4_tellNights 25 = .ok (.aload_n 1, 1) := by decide +kernel
theorem dX4_tellNights_26 : decode cX4_tellNights 26 = .ok (.iload_n 0, 1) := by decide +kernel
theorem dX4_tellNights_27 : decode cX4_tellNights 27 = .ok (.invokevirtual 111, 3) := by decide +kernel
theorem dX4_tellNights_30 : decode cX4_tellNights 30 = .ok (.iconst 1, 1) := by decide +kernel
theorem dX4_tellNights_31 : decode cX4_tellNights 31 = .ok (.ireturn, 1) := by decide +kernel
theorem dX4_kindOfLetter_0 : decode cX4_kindOfLetter 0 = .ok (.iconst 0, 1) := by decide +kernel
theorem dX4_kindOfLetter_1 : decode cX4_kindOfLetter 1 = .ok (.istore_n 1, 1) := by decide +kernel
theorem dX4_kindOfLetter_2 : decode cX4_kindOfLetter 2 = .ok (.iload_n 1, 1) := by decide +kernel
theorem dX4_kindOfLetter_3 : decode cX4_kindOfLetter 3 = .ok (.ldc 114, 2) := by decide +kernel
theorem dX4_kindOfLetter_5 : decode cX4_kindOfLetter 5 = .ok (.invokevirtual 40, 3) := by decide +kernel
theorem dX4_kindOfLetter_8 : decode cX4_kindOfLetter 8 = .ok (.if_icmp .ge 21, 3) := by decide +kernel
theorem dX4_kindOfLetter_11 : decode cX4_kindOfLetter 11 = .ok (.ldc 114, 2) := by decide +kernel
theorem dX4_kindOfLetter_13 : decode cX4_kindOfLetter 13 = .ok (.iload_n 1, 1) := by decide +kernel
theorem dX4_kindOfLetter_14 : decode cX4_kindOfLetter 14 = .ok (.invokevirtual 53, 3) := by decide +kernel
theorem dX4_kindOfLetter_17 : decode cX4_kindOfLetter 17 = .ok (.iload_n 0, 1) := by decide +kernel
theorem dX4_kindOfLetter_18 : decode cX4_kindOfLetter 18 = .ok (.if_icmp .ne 5, 3) := by decide +kernel
theorem dX4_kindOfLetter_21 : decode cX4_kindOfLetter 21 = .ok (.iload_n 1, 1) := by decide +kernel
theorem dX4_kindOfLetter_22 : decode cX4_kindOfLetter 22 = .ok (.ireturn, 1) := by decide +kernel
theorem dX4_kindOfLetter_23 : decode cX4_kindOfLetter 23 = .ok (.iinc 1 1, 3) := by decide +kernel
theorem dX4_kindOfLetter_26 : decode cX4_kindOfLetter 26 = .ok (.goto (-24), 3) := by decide +kernel
theorem dX4_kindOfLetter_29 : decode cX4_kindOfLetter 29 = .ok (.bipush (-9), 2) := by decide +kernel
theorem dX4_kindOfLetter_31 : decode cX4_kindOfLetter 31 = .ok (.ireturn, 1) := by decide +kernel
theorem dX4_digitAt_0 : decode cX4_digitAt 0 = .ok (.aload_n 0, 1) := by decide +kernel
theorem dX4_digitAt_1 : decode cX4_digitAt 1 = .ok (.getfield 14, 3) := by decide +kernel
theorem dX4_digitAt_4 : decode cX4_digitAt 4 = .ok (.iload_n 1, 1) := by decide +kernel
theorem dX4_digitAt_5 : decode cX4_digitAt 5 = .ok (.invokevirtual 32, 3) := by decide +kernel
theorem dX4_digitAt_8 : decode cX4_digitAt 8 = .ok (.bipush 48, 2) := by decide +kernel
theorem dX4_digitAt_10 : decode cX4_digitAt 10 = .ok (.isub, 1) := by decide +kernel
theorem dX4_digitAt_11 : decode cX4_digitAt 11 = .ok (.ireturn, 1) := by decide +kernel
theorem dX4_pairAt_0 : decode cX4_pairAt 0 = .ok (.bipush 10, 2) := by decide +kernel
theorem dX4_pairAt_2 : decode cX4_pairAt 2 = .ok (.aload_n 0, 1) := by decide +kernel
theorem dX4_pairAt_3 : decode cX4_pairAt 3 = .ok (.iload_n 1, 1) := by decide +kernel
theorem dX4_pairAt_4 : decode cX4_pairAt 4 = .ok (.invokevirtual 79, 3) := by decide +kernel
theorem dX4_pairAt_7 : decode cX4_pairAt 7 = .ok (.imul, 1) := by decide +kernel
theorem dX4_pairAt_8 : decode cX4_pairAt 8 = .ok (.aload_n 0, 1) := by decide +kernel
theorem dX4_pairAt_9 : decode cX4_pairAt 9 = .ok (.iload_n 1, 1) := by decide +kernel
theorem dX4_pairAt_10 : decode cX4_pairAt 10 = .ok (.iconst 1, 1) := by decide +kernel
theorem dX4_pairAt_11 : decode cX4_pairAt 11 = .ok (.iadd, 1) := by decide +kernel
theorem dX4_pairAt_12 : decode cX4_pairAt 12 = .ok (.invokevirtual 79, 3) := by decide +kernel
theorem dX4_pairAt_15 : decode cX4_pairAt 15 = .ok (.iadd, 1) := by decide +kernel
theorem dX4_pairAt_16 : decode cX4_pairAt 16 = .ok (.ireturn, 1) := by decide +kernel
