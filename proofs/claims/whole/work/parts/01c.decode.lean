theorem dJ0_length_8abf5_0 : decode cJ0_length_8abf5 0 = .ok (.aload_n 0, 1) := by decide +kernel
theorem dJ0_length_8abf5_1 : decode cJ0_length_8abf5 1 = .ok (.getfield 9, 3) := by decide +kernel
theorem dJ0_length_8abf5_4 : decode cJ0_length_8abf5 4 = .ok (.arraylength, 1) := by decide +kernel
theorem dJ0_length_8abf5_5 : decode cJ0_length_8abf5 5 = .ok (.aload_n 0, 1) := by decide +kernel
theorem dJ0_length_8abf5_6 : decode cJ0_length_8abf5 6 = .ok (.invokevirtual 335, 3) := by decide +kernel
theorem dJ0_length_8abf5_9 : decode cJ0_length_8abf5 9 = .ok (.ishr, 1) := by decide +kernel
theorem dJ0_length_8abf5_10 : decode cJ0_length_8abf5 10 = .ok (.ireturn, 1) := by decide +kernel
theorem dJ0_indexOf_0f7a4_0 : decode cJ0_indexOf_0f7a4 0 = .ok (.aload_n 0, 1) := by decide +kernel
theorem dJ0_indexOf_0f7a4_1 : decode cJ0_indexOf_0f7a4 1 = .ok (.iload_n 1, 1) := by decide +kernel
theorem dJ0_indexOf_0f7a4_2 : decode cJ0_indexOf_0f7a4 2 = .ok (.iconst 0, 1) := by decide +kernel
theorem dJ0_indexOf_0f7a4_3 : decode cJ0_indexOf_0f7a4 3 = .ok (.invokevirtual 633, 3) := by decide +kernel
theorem dJ0_indexOf_0f7a4_6 : decode cJ0_indexOf_0f7a4 6 = .ok (.ireturn, 1) := by decide +kernel
theorem dJ0_indexOf_7cf53_0 : decode cJ0_indexOf_7cf53 0 = .ok (.aload_n 0, 1) := by decide +kernel
theorem dJ0_indexOf_7cf53_1 : decode cJ0_indexOf_7cf53 1 = .ok (.invokevirtual 492, 3) := by decide +kernel
theorem dJ0_indexOf_7cf53_4 : decode cJ0_indexOf_7cf53 4 = .ok (.ifCond .eq 19, 3) := by decide +kernel
theorem dJ0_indexOf_7cf53_7 : decode cJ0_indexOf_7cf53 7 = .ok (.aload_n 0, 1) := by decide +kernel
theorem dJ0_indexOf_7cf53_8 : decode cJ0_indexOf_7cf53 8 = .ok (.getfield 9, 3) := by decide +kernel
theorem dJ0_indexOf_7cf53_11 : decode cJ0_indexOf_7cf53 11 = .ok (.iload_n 1, 1) := by decide +kernel
theorem dJ0_indexOf_7cf53_12 : decode cJ0_indexOf_7cf53 12 = .ok (.iload_n 2, 1) := by decide +kernel
theorem dJ0_indexOf_7cf53_13 : decode cJ0_indexOf_7cf53 13 = .ok (.aload_n 0, 1) := by decide +kernel
theorem dJ0_indexOf_7cf53_14 : decode cJ0_indexOf_7cf53 14 = .ok (.invokevirtual 505, 3) := by decide +kernel
theorem dJ0_indexOf_7cf53_17 : decode cJ0_indexOf_7cf53 17 = .ok (.invokestatic 637, 3) := by decide +kernel
theorem dJ0_indexOf_7cf53_20 : decode cJ0_indexOf_7cf53 20 = .ok (.goto 16, 3) := by decide +kernel
theorem dJ0_indexOf_7cf53_23 : decode cJ0_indexOf_7cf53 23 = .ok (.aload_n 0, 1) := by decide +kernel
theorem dJ0_indexOf_7cf53_24 : decode cJ0_indexOf_7cf53 24 = .ok (.getfield 9, 3) := by decide +kernel
theorem dJ0_indexOf_7cf53_27 : decode cJ0_indexOf_7cf53 27 = .ok (.iload_n 1, 1) := by decide +kernel
theorem dJ0_indexOf_7cf53_28 : decode cJ0_indexOf_7cf53 28 = .ok (.iload_n 2, 1) := by decide +kernel
theorem dJ0_indexOf_7cf53_29 : decode cJ0_indexOf_7cf53 29 = .ok (.aload_n 0, 1) := by decide +kernel
theorem dJ0_indexOf_7cf53_30 : decode cJ0_indexOf_7cf53 30 = .ok (.invokevirtual 505, 3) := by decide +kernel
theorem dJ0_indexOf_7cf53_33 : decode cJ0_indexOf_7cf53 33 = .ok (.invokestatic 640, 3) := by decide +kernel
theorem dJ0_indexOf_7cf53_36 : decode cJ0_indexOf_7cf53 36 = .ok (.ireturn, 1) := by decide +kernel
theorem dJ0_coder_7d493_0 : decode cJ0_coder_7d493 0 = .ok (.getstatic 38, 3) := by decide +kernel
theorem dJ0_coder_7d493_3 : decode cJ0_coder_7d493 3 = .ok (.ifCond .eq 10, 3) := by decide +kernel
theorem dJ0_coder_7d493_6 : decode cJ0_coder_7d493 6 = .ok (.aload_n 0, 1) := by decide +kernel
theorem dJ0_coder_7d493_7 : decode cJ0_coder_7d493 7 = .ok (.getfield 15, 3) := by decide +kernel
theorem dJ0_coder_7d493_10 : decode cJ0_coder_7d493 10 = .ok (.goto 4, 3) := by decide +kernel
theorem dJ0_coder_7d493_13 : decode cJ0_coder_7d493 13 = .ok (.iconst 1, 1) := by decide +kernel
theorem dJ0_coder_7d493_14 : decode cJ0_coder_7d493 14 = .ok (.ireturn, 1) := by decide +kernel
theorem dJ0_isLatin1_aae02_0 : decode cJ0_isLatin1_aae02 0 = .ok (.getstatic 38, 3) := by decide +kernel
theorem dJ0_isLatin1_aae02_3 : decode cJ0_isLatin1_aae02 3 = .ok (.ifCond .eq 14, 3) := by decide +kernel
theorem dJ0_isLatin1_aae02_6 : decode cJ0_isLatin1_aae02 6 = .ok (.aload_n 0, 1) := by decide +kernel
theorem dJ0_isLatin1_aae02_7 : decode cJ0_isLatin1_aae02 7 = .ok (.getfield 15, 3) := by decide +kernel
theorem dJ0_isLatin1_aae02_10 : decode cJ0_isLatin1_aae02 10 = .ok (.ifCond .ne 7, 3) := by decide +kernel
theorem dJ0_isLatin1_aae02_13 : decode cJ0_isLatin1_aae02 13 = .ok (.iconst 1, 1) := by decide +kernel
theorem dJ0_isLatin1_aae02_14 : decode cJ0_isLatin1_aae02 14 = .ok (.goto 4, 3) := by decide +kernel
theorem dJ0_isLatin1_aae02_17 : decode cJ0_isLatin1_aae02 17 = .ok (.iconst 0, 1) := by decide +kernel
theorem dJ0_isLatin1_aae02_18 : decode cJ0_isLatin1_aae02 18 = .ok (.ireturn, 1) := by decide +kernel
theorem dJ0_checkBoundsBeginEnd_23922_0 : decode cJ0_checkBoundsBeginEnd_23922 0 = .ok (.iload_n 0, 1) := by decide +kernel
theorem dJ0_checkBoundsBeginEnd_23922_1 : decode cJ0_checkBoundsBeginEnd_23922 1 = .ok (.iload_n 1, 1) := by decide +kernel
theorem dJ0_checkBoundsBeginEnd_23922_2 : decode cJ0_checkBoundsBeginEnd_23922 2 = .ok (.iload_n 2, 1) := by decide +kernel
theorem dJ0_checkBoundsBeginEnd_23922_3 : decode cJ0_checkBoundsBeginEnd_23922 3 = .ok (.getstatic 1053, 3) := by decide +kernel
theorem dJ0_checkBoundsBeginEnd_23922_6 : decode cJ0_checkBoundsBeginEnd_23922 6 = .ok (.invokestatic 1062, 3) := by decide +kernel
theorem dJ0_checkBoundsBeginEnd_23922_9 : decode cJ0_checkBoundsBeginEnd_23922 9 = .ok (.pop, 1) := by decide +kernel
theorem dJ0_checkBoundsBeginEnd_23922_10 : decode cJ0_checkBoundsBeginEnd_23922 10 = .ok (.return_, 1) := by decide +kernel
theorem dJ1_canEncode_9a6ad_0 : decode cJ1_canEncode_9a6ad 0 = .ok (.iload_n 0, 1) := by decide +kernel
theorem dJ1_canEncode_9a6ad_1 : decode cJ1_canEncode_9a6ad 1 = .ok (.ifCond .lt 14, 3) := by decide +kernel
theorem dJ1_canEncode_9a6ad_4 : decode cJ1_canEncode_9a6ad 4 = .ok (.iload_n 0, 1) := by decide +kernel
theorem dJ1_canEncode_9a6ad_5 : decode cJ1_canEncode_9a6ad 5 = .ok (.sipush 255, 3) := by decide +kernel
theorem dJ1_canEncode_9a6ad_8 : decode cJ1_canEncode_9a6ad 8 = .ok (.if_icmp .gt 7, 3) := by decide +kernel
theorem dJ1_canEncode_9a6ad_11 : decode cJ1_canEncode_9a6ad 11 = .ok (.iconst 1, 1) := by decide +kernel
theorem dJ1_canEncode_9a6ad_12 : decode cJ1_canEncode_9a6ad 12 = .ok (.goto 4, 3) := by decide +kernel
theorem dJ1_canEncode_9a6ad_15 : decode cJ1_canEncode_9a6ad 15 = .ok (.iconst 0, 1) := by decide +kernel
theorem dJ1_canEncode_9a6ad_16 : decode cJ1_canEncode_9a6ad 16 = .ok (.ireturn, 1) := by decide +kernel
theorem dJ1_indexOf_4cfef_0 : decode cJ1_indexOf_4cfef 0 = .ok (.iload_n 1, 1) := by decide +kernel
theorem dJ1_indexOf_4cfef_1 : decode cJ1_indexOf_4cfef 1 = .ok (.invokestatic 88, 3) := by decide +kernel
theorem dJ1_indexOf_4cfef_4 : decode cJ1_indexOf_4cfef 4 = .ok (.ifCond .ne 5, 3) := by decide +kernel
theorem dJ1_indexOf_4cfef_7 : decode cJ1_indexOf_4cfef 7 = .ok (.iconst (-1), 1) := by decide +kernel
theorem dJ1_indexOf_4cfef_8 : decode cJ1_indexOf_4cfef 8 = .ok (.ireturn, 1) := by decide +kernel
theorem dJ1_indexOf_4cfef_9 : decode cJ1_indexOf_4cfef 9 = .ok (.iload_n 2, 1) := by decide +kernel
theorem dJ1_indexOf_4cfef_10 : decode cJ1_indexOf_4cfef 10 = .ok (.iconst 0, 1) := by decide +kernel
theorem dJ1_indexOf_4cfef_11 : decode cJ1_indexOf_4cfef 11 = .ok (.invokestatic 92, 3) := by decide +kernel
theorem dJ1_indexOf_4cfef_14 : decode cJ1_indexOf_4cfef 14 = .ok (.istore_n 2, 1) := by decide +kernel
theorem dJ1_indexOf_4cfef_15 : decode cJ1_indexOf_4cfef 15 = .ok (.iload_n 3, 1) := by decide +kernel
theorem dJ1_indexOf_4cfef_16 : decode cJ1_indexOf_4cfef 16 = .ok (.aload_n 0, 1) := by decide +kernel
theorem dJ1_indexOf_4cfef_17 : decode cJ1_indexOf_4cfef 17 = .ok (.arraylength, 1) := by decide +kernel
theorem dJ1_indexOf_4cfef_18 : decode cJ1_indexOf_4cfef 18 = .ok (.invokestatic 38, 3) := by decide +kernel
theorem dJ1_indexOf_4cfef_21 : decode cJ1_indexOf_4cfef 21 = .ok (.istore_n 3, 1) := by decide +kernel
theorem dJ1_indexOf_4cfef_22 : decode cJ1_indexOf_4cfef 22 = .ok (.iload_n 2, 1) := by decide +kernel
theorem dJ1_indexOf_4cfef_23 : decode cJ1_indexOf_4cfef 23 = .ok (.iload_n 3, 1) := by decide +kernel
theorem dJ1_indexOf_4cfef_24 : decode cJ1_indexOf_4cfef 24 = .ok (.if_icmp .lt 5, 3) := by decide +kernel
theorem dJ1_indexOf_4cfef_27 : decode cJ1_indexOf_4cfef 27 = .ok (.iconst (-1), 1) := by decide +kernel
theorem dJ1_indexOf_4cfef_28 : decode cJ1_indexOf_4cfef 28 = .ok (.ireturn, 1) := by decide +kernel
theorem dJ1_indexOf_4cfef_29 : decode cJ1_indexOf_4cfef 29 = .ok (.aload_n 0, 1) := by decide +kernel
theorem dJ1_indexOf_4cfef_30 : decode cJ1_indexOf_4cfef 30 = .ok (.iload_n 1, 1) := by decide +kernel
theorem dJ1_indexOf_4cfef_31 : decode cJ1_indexOf_4cfef 31 = .ok (.iload_n 2, 1) := by decide +kernel
theorem dJ1_indexOf_4cfef_32 : decode cJ1_indexOf_4cfef 32 = .ok (.iload_n 3, 1) := by decide +kernel
theorem dJ1_indexOf_4cfef_33 : decode cJ1_indexOf_4cfef 33 = .ok (.invokestatic 95, 3) := by decide +kernel
theorem dJ1_indexOf_4cfef_36 : decode cJ1_indexOf_4cfef 36 = .ok (.ireturn, 1) := by decide +kernel
theorem dJ1_indexOfChar_4cfef_0 : decode cJ1_indexOfChar_4cfef 0 = .ok (.iload_n 1, 1) := by decide +kernel
theorem dJ1_indexOfChar_4cfef_1 : decode cJ1_indexOfChar_4cfef 1 = .ok (.i2b, 1) := by decide +kernel
theorem dJ1_indexOfChar_4cfef_2 : decode cJ1_indexOfChar_4cfef 2 = .ok (.istore 4, 2) := by decide +kernel
theorem dJ1_indexOfChar_4cfef_4 : decode cJ1_indexOfChar_4cfef 4 = .ok (.iload_n 2, 1) := by decide +kernel
theorem dJ1_indexOfChar_4cfef_5 : decode cJ1_indexOfChar_4cfef 5 = .ok (.istore 5, 2) := by decide +kernel
theorem dJ1_indexOfChar_4cfef_7 : decode cJ1_indexOfChar_4cfef 7 = .ok (.iload 5, 2) := by decide +kernel
theorem dJ1_indexOfChar_4cfef_9 : decode cJ1_indexOfChar_4cfef 9 = .ok (.iload_n 3, 1) := by decide +kernel
theorem dJ1_indexOfChar_4cfef_10 : decode cJ1_indexOfChar_4cfef 10 = .ok (.if_icmp .ge 21, 3) := by decide +kernel
theorem dJ1_indexOfChar_4cfef_13 : decode cJ1_indexOfChar_4cfef 13 = .ok (.aload_n 0, 1) := by decide +kernel
theorem dJ1_indexOfChar_4cfef_14 : decode cJ1_indexOfChar_4cfef 14 = .ok (.iload 5, 2) := by decide +kernel
theorem dJ1_indexOfChar_4cfef_16 : decode cJ1_indexOfChar_4cfef 16 = .ok (.baload, 1) := by decide +kernel
theorem dJ1_indexOfChar_4cfef_17 : decode cJ1_indexOfChar_4cfef 17 = .ok (.iload 4, 2) := by decide +kernel
theorem dJ1_indexOfChar_4cfef_19 : decode cJ1_indexOfChar_4cfef 19 = .ok (.if_icmp .ne 6, 3) := by decide +kernel
theorem dJ1_indexOfChar_4cfef_22 : decode cJ1_indexOfChar_4cfef 22 = .ok (.iload 5, 2) := by decide +kernel
theorem dJ1_indexOfChar_4cfef_24 : decode cJ1_indexOfChar_4cfef 24 = .ok (.ireturn, 1) := by decide +kernel
theorem dJ1_indexOfChar_4cfef_25 : decode cJ1_indexOfChar_4cfef 25 = .ok (.iinc 5 1, 3) := by decide +kernel
theorem dJ1_indexOfChar_4cfef_28 : decode cJ1_indexOfChar_4cfef 28 = .ok (.goto (-21), 3) := by decide +kernel
theorem dJ1_indexOfChar_4cfef_31 : decode cJ1_indexOfChar_4cfef 31 = .ok (.iconst (-1), 1) := by decide +kernel
theorem dJ1_indexOfChar_4cfef_32 : decode cJ1_indexOfChar_4cfef 32 = .ok (.ireturn, 1) := by decide +kernel
theorem dJ11_isValidCodePoint_9a6ad_0 : decode cJ11_isValidCodePoint_9a6ad 0 = .ok (.iload_n 0, 1) := by decide +kernel
theorem dJ11_isValidCodePoint_9a6ad_1 : decode cJ11_isValidCodePoint_9a6ad 1 = .ok (.bipush 16, 2) := by decide +kernel
theorem dJ11_isValidCodePoint_9a6ad_3 : decode cJ11_isValidCodePoint_9a6ad 3 = .ok (.iushr, 1) := by decide +kernel
theorem dJ11_isValidCodePoint_9a6ad_4 : decode cJ11_isValidCodePoint_9a6ad 4 = .ok (.istore_n 1, 1) := by decide +kernel
theorem dJ11_isValidCodePoint_9a6ad_5 : decode cJ11_isValidCodePoint_9a6ad 5 = .ok (.iload_n 1, 1) := by decide +kernel
theorem dJ11_isValidCodePoint_9a6ad_6 : decode cJ11_isValidCodePoint_9a6ad 6 = .ok (.bipush 17, 2) := by decide +kernel
theorem dJ11_isValidCodePoint_9a6ad_8 : decode cJ11_isValidCodePoint_9a6ad 8 = .ok (.if_icmp .ge 7, 3) := by decide +kernel
theorem dJ11_isValidCodePoint_9a6ad_11 : decode cJ11_isValidCodePoint_9a6ad 11 = .ok (.iconst 1, 1) := by decide +kernel
theorem dJ11_isValidCodePoint_9a6ad_12 : decode cJ11_isValidCodePoint_9a6ad 12 = .ok (.goto 4, 3) := by decide +kernel
theorem dJ11_isValidCodePoint_9a6ad_15 : decode cJ11_isValidCodePoint_9a6ad 15 = .ok (.iconst 0, 1) := by decide +kernel
theorem dJ11_isValidCodePoint_9a6ad_16 : decode cJ11_isValidCodePoint_9a6ad 16 = .ok (.ireturn, 1) := by decide +kernel
theorem dJ11_highSurrogate_5068e_0 : decode cJ11_highSurrogate_5068e 0 = .ok (.iload_n 0, 1) := by decide +kernel
theorem dJ11_highSurrogate_5068e_1 : decode cJ11_highSurrogate_5068e 1 = .ok (.bipush 10, 2) := by decide +kernel
theorem dJ11_highSurrogate_5068e_3 : decode cJ11_highSurrogate_5068e 3 = .ok (.iushr, 1) := by decide +kernel
theorem dJ11_highSurrogate_5068e_4 : decode cJ11_highSurrogate_5068e 4 = .ok (.ldc 110, 2) := by decide +kernel
theorem dJ11_highSurrogate_5068e_6 : decode cJ11_highSurrogate_5068e 6 = .ok (.iadd, 1) := by decide +kernel
theorem dJ11_highSurrogate_5068e_7 : decode cJ11_highSurrogate_5068e 7 = .ok (.i2c, 1) := by decide +kernel
theorem dJ11_highSurrogate_5068e_8 : decode cJ11_highSurrogate_5068e 8 = .ok (.ireturn, 1) := by decide +kernel
theorem dJ11_lowSurrogate_5068e_0 : decode cJ11_lowSurrogate_5068e 0 = .ok (.iload_n 0, 1) := by decide +kernel
theorem dJ11_lowSurrogate_5068e_1 : decode cJ11_lowSurrogate_5068e 1 = .ok (.sipush 1023, 3) := by decide +kernel
theorem dJ11_lowSurrogate_5068e_4 : decode cJ11_lowSurrogate_5068e 4 = .ok (.iand, 1) := by decide +kernel
theorem dJ11_lowSurrogate_5068e_5 : decode cJ11_lowSurrogate_5068e 5 = .ok (.ldc 76, 2) := by decide +kernel
theorem dJ11_lowSurrogate_5068e_7 : decode cJ11_lowSurrogate_5068e 7 = .ok (.iadd, 1) := by decide +kernel
theorem dJ11_lowSurrogate_5068e_8 : decode cJ11_lowSurrogate_5068e 8 = .ok (.i2c, 1) := by decide +kernel
theorem dJ11_lowSurrogate_5068e_9 : decode cJ11_lowSurrogate_5068e 9 = .ok (.ireturn, 1) := by decide +kernel
theorem dJ2_getChar_3b067_0 : decode cJ2_getChar_3b067 0 = .ok (.getstatic 44, 3) := by decide +kernel
theorem dJ2_getChar_3b067_3 : decode cJ2_getChar_3b067 3 = .ok (.ifCond .ne 25, 3) := by decide +kernel
theorem dJ2_getChar_3b067_6 : decode cJ2_getChar_3b067 6 = .ok (.iload_n 1, 1) := by decide +kernel
theorem dJ2_getChar_3b067_7 : decode cJ2_getChar_3b067 7 = .ok (.ifCond .lt 11, 3) := by decide +kernel
theorem dJ2_getChar_3b067_10 : decode cJ2_getChar_3b067 10 = .ok (.iload_n 1, 1) := by decide +kernel
theorem dJ2_getChar_3b067_11 : decode cJ2_getChar_3b067 11 = .ok (.aload_n 0, 1) := by decide +kernel
theorem dJ2_getChar_3b067_12 : decode cJ2_getChar_3b067 12 = .ok (.invokestatic 48, 3) := by decide +kernel
theorem dJ2_getChar_3b067_15 : decode cJ2_getChar_3b067 15 = .ok (.if_icmp .lt 13, 3) := by decide +kernel
theorem dJ2_getChar_3b067_18 : decode cJ2_getChar_3b067 18 = .ok (.new 52, 3) := by decide +kernel
theorem dJ2_getChar_3b067_21 : decode cJ2_getChar_3b067 21 = .ok (.dup, 1) := by decide +kernel
theorem dJ2_getChar_3b067_22 : decode cJ2_getChar_3b067 22 = .ok (.ldc 54, 2) := by decide +kernel
theorem dJ2_getChar_3b067_24 : decode cJ2_getChar_3b067 24 = .ok (.invokespecial 56, 3) := by decide +kernel
theorem dJ2_getChar_3b067_27 : decode cJ2_getChar_3b067 27 = .ok (.athrow, 1) := by decide +kernel
theorem dJ2_getChar_3b067_28 : decode cJ2_getChar_3b067 28 = .ok (.iload_n 1, 1) := by decide +kernel
theorem dJ2_getChar_3b067_29 : decode cJ2_getChar_3b067 29 = .ok (.iconst 1, 1) := by decide +kernel
theorem dJ2_getChar_3b067_30 : decode cJ2_getChar_3b067 30 = .ok (.ishl, 1) := by decide +kernel
theorem dJ2_getChar_3b067_31 : decode cJ2_getChar_3b067 31 = .ok (.istore_n 1, 1) := by decide +kernel
theorem dJ2_getChar_3b067_32 : decode cJ2_getChar_3b067 32 = .ok (.aload_n 0, 1) := by decide +kernel
theorem dJ2_getChar_3b067_33 : decode cJ2_getChar_3b067 33 = .ok (.iload_n 1, 1) := by decide +kernel
theorem dJ2_getChar_3b067_34 : decode cJ2_getChar_3b067 34 = .ok (.iinc 1 1, 3) := by decide +kernel
theorem dJ2_getChar_3b067_37 : decode cJ2_getChar_3b067 37 = .ok (.baload, 1) := by decide +kernel
theorem dJ2_getChar_3b067_38 : decode cJ2_getChar_3b067 38 = .ok (.sipush 255, 3) := by decide +kernel
theorem dJ2_getChar_3b067_41 : decode cJ2_getChar_3b067 41 = .ok (.iand, 1) := by decide +kernel
theorem dJ2_getChar_3b067_42 : decode cJ2_getChar_3b067 42 = .ok (.getstatic 59, 3) := by decide +kernel
theorem dJ2_getChar_3b067_45 : decode cJ2_getChar_3b067 45 = .ok (.ishl, 1) := by decide +kernel
theorem dJ2_getChar_3b067_46 : decode cJ2_getChar_3b067 46 = .ok (.aload_n 0, 1) := by decide +kernel
theorem dJ2_getChar_3b067_47 : decode cJ2_getChar_3b067 47 = .ok (.iload_n 1, 1) := by decide +kernel
theorem dJ2_getChar_3b067_48 : decode cJ2_getChar_3b067 48 = .ok (.baload, 1) := by decide +kernel
theorem dJ2_getChar_3b067_49 : decode cJ2_getChar_3b067 49 = .ok (.sipush 255, 3) := by decide +kernel
theorem dJ2_getChar_3b067_52 : decode cJ2_getChar_3b067 52 = .ok (.iand, 1) := by decide +kernel
theorem dJ2_getChar_3b067_53 : decode cJ2_getChar_3b067 53 = .ok (.getstatic 63, 3) := by decide +kernel
theorem dJ2_getChar_3b067_56 : decode cJ2_getChar_3b067 56 = .ok (.ishl, 1) := by decide +kernel
theorem dJ2_getChar_3b067_57 : decode cJ2_getChar_3b067 57 = .ok (.ior, 1) := by decide +kernel
theorem dJ2_getChar_3b067_58 : decode cJ2_getChar_3b067 58 = .ok (.i2c, 1) := by decide +kernel
theorem dJ2_getChar_3b067_59 : decode cJ2_getChar_3b067 59 = .ok (.ireturn, 1) := by decide +kernel
theorem dJ2_length_9d52b_0 : decode cJ2_length_9d52b 0 = .ok (.aload_n 0, 1) := by decide +kernel
theorem dJ2_length_9d52b_1 : decode cJ2_length_9d52b 1 = .ok (.arraylength, 1) := by decide +kernel
theorem dJ2_length_9d52b_2 : decode cJ2_length_9d52b 2 = .ok (.iconst 1, 1) := by decide +kernel
theorem dJ2_length_9d52b_3 : decode cJ2_length_9d52b 3 = .ok (.ishr, 1) := by decide +kernel
theorem dJ2_length_9d52b_4 : decode cJ2_length_9d52b 4 = .ok (.ireturn, 1) := by decide +kernel
theorem dJ2_indexOf_4cfef_0 : decode cJ2_indexOf_4cfef 0 = .ok (.iload_n 2, 1) := by decide +kernel
theorem dJ2_indexOf_4cfef_1 : decode cJ2_indexOf_4cfef 1 = .ok (.iconst 0, 1) := by decide +kernel
theorem dJ2_indexOf_4cfef_2 : decode cJ2_indexOf_4cfef 2 = .ok (.invokestatic 224, 3) := by decide +kernel
theorem dJ2_indexOf_4cfef_5 : decode cJ2_indexOf_4cfef 5 = .ok (.istore_n 2, 1) := by decide +kernel
theorem dJ2_indexOf_4cfef_6 : decode cJ2_indexOf_4cfef 6 = .ok (.iload_n 3, 1) := by decide +kernel
theorem dJ2_indexOf_4cfef_7 : decode cJ2_indexOf_4cfef 7 = .ok (.aload_n 0, 1) := by decide +kernel
theorem dJ2_indexOf_4cfef_8 : decode cJ2_indexOf_4cfef 8 = .ok (.arraylength, 1) := by decide +kernel
theorem dJ2_indexOf_4cfef_9 : decode cJ2_indexOf_4cfef 9 = .ok (.iconst 1, 1) := by decide +kernel
theorem dJ2_indexOf_4cfef_10 : decode cJ2_indexOf_4cfef 10 = .ok (.ishr, 1) := by decide +kernel
theorem dJ2_indexOf_4cfef_11 : decode cJ2_indexOf_4cfef 11 = .ok (.invokestatic 183, 3) := by decide +kernel
theorem dJ2_indexOf_4cfef_14 : decode cJ2_indexOf_4cfef 14 = .ok (.istore_n 3, 1) := by decide +kernel
theorem dJ2_indexOf_4cfef_15 : decode cJ2_indexOf_4cfef 15 = .ok (.iload_n 2, 1) := by decide +kernel
theorem dJ2_indexOf_4cfef_16 : decode cJ2_indexOf_4cfef 16 = .ok (.iload_n 3, 1) := by decide +kernel
theorem dJ2_indexOf_4cfef_17 : decode cJ2_indexOf_4cfef 17 = .ok (.if_icmp .lt 5, 3) := by decide +kernel
theorem dJ2_indexOf_4cfef_20 : decode cJ2_indexOf_4cfef 20 = .ok (.iconst (-1), 1) := by decide +kernel
theorem dJ2_indexOf_4cfef_21 : decode cJ2_indexOf_4cfef 21 = .ok (.ireturn, 1) := by decide +kernel
theorem dJ2_indexOf_4cfef_22 : decode cJ2_indexOf_4cfef 22 = .ok (.iload_n 1, 1) := by decide +kernel
theorem dJ2_indexOf_4cfef_23 : decode cJ2_indexOf_4cfef 23 = .ok (.ldc 227, 2) := by decide +kernel
theorem dJ2_indexOf_4cfef_25 : decode cJ2_indexOf_4cfef 25 = .ok (.if_icmp .ge 11, 3) := by decide +kernel
theorem dJ2_indexOf_4cfef_28 : decode cJ2_indexOf_4cfef 28 = .ok (.aload_n 0, 1) := by decide +kernel
theorem dJ2_indexOf_4cfef_29 : decode cJ2_indexOf_4cfef 29 = .ok (.iload_n 1, 1) := by decide +kernel
theorem dJ2_indexOf_4cfef_30 : decode cJ2_indexOf_4cfef 30 = .ok (.iload_n 2, 1) := by decide +kernel
theorem dJ2_indexOf_4cfef_31 : decode cJ2_indexOf_4cfef 31 = .ok (.iload_n 3, 1) := by decide +kernel
theorem dJ2_indexOf_4cfef_32 : decode cJ2_indexOf_4cfef 32 = .ok (.invokestatic 228, 3) := by decide +kernel
theorem dJ2_indexOf_4cfef_35 : decode cJ2_indexOf_4cfef 35 = .ok (.ireturn, 1) := by decide +kernel
theorem dJ2_indexOf_4cfef_36 : decode cJ2_indexOf_4cfef 36 = .ok (.aload_n 0, 1) := by decide +kernel
theorem dJ2_indexOf_4cfef_37 : decode cJ2_indexOf_4cfef 37 = .ok (.iload_n 1, 1) := by decide +kernel
theorem dJ2_indexOf_4cfef_38 : decode cJ2_indexOf_4cfef 38 = .ok (.iload_n 2, 1) := by decide +kernel
theorem dJ2_indexOf_4cfef_39 : decode cJ2_indexOf_4cfef 39 = .ok (.iload_n 3, 1) := by decide +kernel
theorem dJ2_indexOf_4cfef_40 : decode cJ2_indexOf_4cfef 40 = .ok (.invokestatic 232, 3) := by decide +kernel
theorem dJ2_indexOf_4cfef_43 : decode cJ2_indexOf_4cfef 43 = .ok (.ireturn, 1) := by decide +kernel
theorem dJ2_indexOfChar_4cfef_0 : decode cJ2_indexOfChar_4cfef 0 = .ok (.iload_n 2, 1) := by decide +kernel
theorem dJ2_indexOfChar_4cfef_1 : decode cJ2_indexOfChar_4cfef 1 = .ok (.iload_n 3, 1) := by decide +kernel
theorem dJ2_indexOfChar_4cfef_2 : decode cJ2_indexOfChar_4cfef 2 = .ok (.aload_n 0, 1) := by decide +kernel
theorem dJ2_indexOfChar_4cfef_3 : decode cJ2_indexOfChar_4cfef 3 = .ok (.invokestatic 96, 3) := by decide +kernel
theorem dJ2_indexOfChar_4cfef_6 : decode cJ2_indexOfChar_4cfef 6 = .ok (.aload_n 0, 1) := by decide +kernel
theorem dJ2_indexOfChar_4cfef_7 : decode cJ2_indexOfChar_4cfef 7 = .ok (.iload_n 1, 1) := by decide +kernel
theorem dJ2_indexOfChar_4cfef_8 : decode cJ2_indexOfChar_4cfef 8 = .ok (.iload_n 2, 1) := by decide +kernel
theorem dJ2_indexOfChar_4cfef_9 : decode cJ2_indexOfChar_4cfef 9 = .ok (.iload_n 3, 1) := by decide +kernel
theorem dJ2_indexOfChar_4cfef_10 : decode cJ2_indexOfChar_4cfef 10 = .ok (.invokestatic 244, 3) := by decide +kernel
theorem dJ2_indexOfChar_4cfef_13 : decode cJ2_indexOfChar_4cfef 13 = .ok (.ireturn, 1) := by decide +kernel
theorem dJ2_indexOfCharUnsafe_4cfef_0 : decode cJ2_indexOfCharUnsafe_4cfef 0 = .ok (.iload_n 2, 1) := by decide +kernel
theorem dJ2_indexOfCharUnsafe_4cfef_1 : decode cJ2_indexOfCharUnsafe_4cfef 1 = .ok (.istore 4, 2) := by decide +kernel
theorem dJ2_indexOfCharUnsafe_4cfef_3 : decode cJ2_indexOfCharUnsafe_4cfef 3 = .ok (.iload 4, 2) := by decide +kernel
theorem dJ2_indexOfCharUnsafe_4cfef_5 : decode cJ2_indexOfCharUnsafe_4cfef 5 = .ok (.iload_n 3, 1) := by decide +kernel
theorem dJ2_indexOfCharUnsafe_4cfef_6 : decode cJ2_indexOfCharUnsafe_4cfef 6 = .ok (.if_icmp .ge 22, 3) := by decide +kernel
theorem dJ2_indexOfCharUnsafe_4cfef_9 : decode cJ2_indexOfCharUnsafe_4cfef 9 = .ok (.aload_n 0, 1) := by decide +kernel
theorem dJ2_indexOfCharUnsafe_4cfef_10 : decode cJ2_indexOfCharUnsafe_4cfef 10 = .ok (.iload 4, 2) := by decide +kernel
theorem dJ2_indexOfCharUnsafe_4cfef_12 : decode cJ2_indexOfCharUnsafe_4cfef 12 = .ok (.invokestatic 71, 3) := by decide +kernel
theorem dJ2_indexOfCharUnsafe_4cfef_15 : decode cJ2_indexOfCharUnsafe_4cfef 15 = .ok (.iload_n 1, 1) := by decide +kernel
theorem dJ2_indexOfCharUnsafe_4cfef_16 : decode cJ2_indexOfCharUnsafe_4cfef 16 = .ok (.if_icmp .ne 6, 3) := by decide +kernel
theorem dJ2_indexOfCharUnsafe_4cfef_19 : decode cJ2_indexOfCharUnsafe_4cfef 19 = .ok (.iload 4, 2) := by decide +kernel
theorem dJ2_indexOfCharUnsafe_4cfef_21 : decode cJ2_indexOfCharUnsafe_4cfef 21 = .ok (.ireturn, 1) := by decide +kernel
theorem dJ2_indexOfCharUnsafe_4cfef_22 : decode cJ2_indexOfCharUnsafe_4cfef 22 = .ok (.iinc 4 1, 3) := by decide +kernel
theorem dJ2_indexOfCharUnsafe_4cfef_25 : decode cJ2_indexOfCharUnsafe_4cfef 25 = .ok (.goto (-22), 3) := by decide +kernel
theorem dJ2_indexOfCharUnsafe_4cfef_28 : decode cJ2_indexOfCharUnsafe_4cfef 28 = .ok (.iconst (-1), 1) := by decide +kernel
theorem dJ2_indexOfCharUnsafe_4cfef_29 : decode cJ2_indexOfCharUnsafe_4cfef 29 = .ok (.ireturn, 1) := by decide +kernel
theorem dJ2_indexOfSupplementary_4cfef_0 : decode cJ2_indexOfSupplementary_4cfef 0 = .ok (.iload_n 1, 1) := by decide +kernel
theorem dJ2_indexOfSupplementary_4cfef_1 : decode cJ2_indexOfSupplementary_4cfef 1 = .ok (.invokestatic 164, 3) := by decide +kernel
theorem dJ2_indexOfSupplementary_4cfef_4 : decode cJ2_indexOfSupplementary_4cfef 4 = .ok (.ifCond .eq 65, 3) := by decide +kernel
theorem dJ2_indexOfSupplementary_4cfef_7 : decode cJ2_indexOfSupplementary_4cfef 7 = .ok (.iload_n 1, 1) := by decide +kernel
theorem dJ2_indexOfSupplementary_4cfef_8 : decode cJ2_indexOfSupplementary_4cfef 8 = .ok (.invokestatic 157, 3) := by decide +kernel
theorem dJ2_indexOfSupplementary_4cfef_11 : decode cJ2_indexOfSupplementary_4cfef 11 = .ok (.istore 4, 2) := by decide +kernel
theorem dJ2_indexOfSupplementary_4cfef_13 : decode cJ2_indexOfSupplementary_4cfef 13 = .ok (.iload_n 1, 1) := by decide +kernel
theorem dJ2_indexOfSupplementary_4cfef_14 : decode cJ2_indexOfSupplementary_4cfef 14 = .ok (.invokestatic 161, 3) := by decide +kernel
theorem dJ2_indexOfSupplementary_4cfef_17 : decode cJ2_indexOfSupplementary_4cfef 17 = .ok (.istore 5, 2) := by decide +kernel
theorem dJ2_indexOfSupplementary_4cfef_19 : decode cJ2_indexOfSupplementary_4cfef 19 = .ok (.iload_n 2, 1) := by decide +kernel
theorem dJ2_indexOfSupplementary_4cfef_20 : decode cJ2_indexOfSupplementary_4cfef 20 = .ok (.iload_n 3, 1) := by decide +kernel
theorem dJ2_indexOfSupplementary_4cfef_21 : decode cJ2_indexOfSupplementary_4cfef 21 = .ok (.aload_n 0, 1) := by decide +kernel
theorem dJ2_indexOfSupplementary_4cfef_22 : decode cJ2_indexOfSupplementary_4cfef 22 = .ok (.invokestatic 96, 3) := by decide +kernel
theorem dJ2_indexOfSupplementary_4cfef_25 : decode cJ2_indexOfSupplementary_4cfef 25 = .ok (.iload_n 2, 1) := by decide +kernel
theorem dJ2_indexOfSupplementary_4cfef_26 : decode cJ2_indexOfSupplementary_4cfef 26 = .ok (.istore 6, 2) := by decide +kernel
theorem dJ2_indexOfSupplementary_4cfef_28 : decode cJ2_indexOfSupplementary_4cfef 28 = .ok (.iload 6, 2) := by decide +kernel
theorem dJ2_indexOfSupplementary_4cfef_30 : decode cJ2_indexOfSupplementary_4cfef 30 = .ok (.iload_n 3, 1) := by decide +kernel
theorem dJ2_indexOfSupplementary_4cfef_31 : decode cJ2_indexOfSupplementary_4cfef 31 = .ok (.iconst 1, 1) := by decide +kernel
theorem dJ2_indexOfSupplementary_4cfef_32 : decode cJ2_indexOfSupplementary_4cfef 32 = .ok (.isub, 1) := by decide +kernel
theorem dJ2_indexOfSupplementary_4cfef_33 : decode cJ2_indexOfSupplementary_4cfef 33 = .ok (.if_icmp .ge 36, 3) := by decide +kernel
theorem dJ2_indexOfSupplementary_4cfef_36 : decode cJ2_indexOfSupplementary_4cfef 36 = .ok (.aload_n 0, 1) := by decide +kernel
theorem dJ2_indexOfSupplementary_4cfef_37 : decode cJ2_indexOfSupplementary_4cfef 37 = .ok (.iload 6, 2) := by decide +kernel
theorem dJ2_indexOfSupplementary_4cfef_39 : decode cJ2_indexOfSupplementary_4cfef 39 = .ok (.invokestatic 71, 3) := by decide +kernel
theorem dJ2_indexOfSupplementary_4cfef_42 : decode cJ2_indexOfSupplementary_4cfef 42 = .ok (.iload 4, 2) := by decide +kernel
theorem dJ2_indexOfSupplementary_4cfef_44 : decode cJ2_indexOfSupplementary_4cfef 44 = .ok (.if_icmp .ne 19, 3) := by decide +kernel
theorem dJ2_indexOfSupplementary_4cfef_47 : decode cJ2_indexOfSupplementary_4cfef 47 = .ok (.aload_n 0, 1) := by decide +kernel
theorem dJ2_indexOfSupplementary_4cfef_48 : decode cJ2_indexOfSupplementary_4cfef 48 = .ok (.iload 6, 2) := by decide +kernel
theorem dJ2_indexOfSupplementary_4cfef_50 : decode cJ2_indexOfSupplementary_4cfef 50 = .ok (.iconst 1, 1) := by decide +kernel
theorem dJ2_indexOfSupplementary_4cfef_51 : decode cJ2_indexOfSupplementary_4cfef 51 = .ok (.iadd, 1) := by decide +kernel
theorem dJ2_indexOfSupplementary_4cfef_52 : decode cJ2_indexOfSupplementary_4cfef 52 = .ok (.invokestatic 71, 3) := by decide +kernel
theorem dJ2_indexOfSupplementary_4cfef_55 : decode cJ2_indexOfSupplementary_4cfef 55 = .ok (.iload 5, 2) := by decide +kernel
theorem dJ2_indexOfSupplementary_4cfef_57 : decode cJ2_indexOfSupplementary_4cfef 57 = .ok (.if_icmp .ne 6, 3) := by decide +kernel
theorem dJ2_indexOfSupplementary_4cfef_60 : decode cJ2_indexOfSupplementary_4cfef 60 = .ok (.iload 6, 2) := by decide +kernel
theorem dJ2_indexOfSupplementary_4cfef_62 : decode cJ2_indexOfSupplementary_4cfef 62 = .ok (.ireturn, 1) := by decide +kernel
theorem dJ2_indexOfSupplementary_4cfef_63 : decode cJ2_indexOfSupplementary_4cfef 63 = .ok (.iinc 6 1, 3) := by decide +kernel
theorem dJ2_indexOfSupplementary_4cfef_66 : decode cJ2_indexOfSupplementary_4cfef 66 = .ok (.goto (-38), 3) := by decide +kernel
theorem dJ2_indexOfSupplementary_4cfef_69 : decode cJ2_indexOfSupplementary_4cfef 69 = .ok (.iconst (-1), 1) := by decide +kernel
theorem dJ2_indexOfSupplementary_4cfef_70 : decode cJ2_indexOfSupplementary_4cfef 70 = .ok (.ireturn, 1) := by decide +kernel
theorem dJ2_checkBoundsBeginEnd_d044e_0 : decode cJ2_checkBoundsBeginEnd_d044e 0 = .ok (.iload_n 0, 1) := by decide +kernel
theorem dJ2_checkBoundsBeginEnd_d044e_1 : decode cJ2_checkBoundsBeginEnd_d044e 1 = .ok (.iload_n 1, 1) := by decide +kernel
theorem dJ2_checkBoundsBeginEnd_d044e_2 : decode cJ2_checkBoundsBeginEnd_d044e 2 = .ok (.aload_n 2, 1) := by decide +kernel
theorem dJ2_checkBoundsBeginEnd_d044e_3 : decode cJ2_checkBoundsBeginEnd_d044e 3 = .ok (.invokestatic 48, 3) := by decide +kernel
theorem dJ2_checkBoundsBeginEnd_d044e_6 : decode cJ2_checkBoundsBeginEnd_d044e 6 = .ok (.invokestatic 241, 3) := by decide +kernel
theorem dJ2_checkBoundsBeginEnd_d044e_9 : decode cJ2_checkBoundsBeginEnd_d044e 9 = .ok (.return_, 1) := by decide +kernel
theorem dJ3_checkFromToIndex_8c36e_0 : decode cJ3_checkFromToIndex_8c36e 0 = .ok (.iload_n 0, 1) := by decide +kernel
theorem dJ3_checkFromToIndex_8c36e_1 : decode cJ3_checkFromToIndex_8c36e 1 = .ok (.ifCond .lt 13, 3) := by decide +kernel
theorem dJ3_checkFromToIndex_8c36e_4 : decode cJ3_checkFromToIndex_8c36e 4 = .ok (.iload_n 0, 1) := by decide +kernel
theorem dJ3_checkFromToIndex_8c36e_5 : decode cJ3_checkFromToIndex_8c36e 5 = .ok (.iload_n 1, 1) := by decide +kernel
theorem dJ3_checkFromToIndex_8c36e_6 : decode cJ3_checkFromToIndex_8c36e 6 = .ok (.if_icmp .gt 8, 3) := by decide +kernel
theorem dJ3_checkFromToIndex_8c36e_9 : decode cJ3_checkFromToIndex_8c36e 9 = .ok (.iload_n 1, 1) := by decide +kernel
theorem dJ3_checkFromToIndex_8c36e_10 : decode cJ3_checkFromToIndex_8c36e 10 = .ok (.iload_n 2, 1) := by decide +kernel
theorem dJ3_checkFromToIndex_8c36e_11 : decode cJ3_checkFromToIndex_8c36e 11 = .ok (.if_icmp .le 11, 3) := by decide +kernel
theorem dJ3_checkFromToIndex_8c36e_14 : decode cJ3_checkFromToIndex_8c36e 14 = .ok (.aload_n 3, 1) := by decide +kernel
theorem dJ3_checkFromToIndex_8c36e_15 : decode cJ3_checkFromToIndex_8c36e 15 = .ok (.iload_n 0, 1) := by decide +kernel
theorem dJ3_checkFromToIndex_8c36e_16 : decode cJ3_checkFromToIndex_8c36e 16 = .ok (.iload_n 1, 1) := by decide +kernel
theorem dJ3_checkFromToIndex_8c36e_17 : decode cJ3_checkFromToIndex_8c36e 17 = .ok (.iload_n 2, 1) := by decide +kernel
theorem dJ3_checkFromToIndex_8c36e_18 : decode cJ3_checkFromToIndex_8c36e 18 = .ok (.invokestatic 99, 3) := by decide +kernel
theorem dJ3_checkFromToIndex_8c36e_21 : decode cJ3_checkFromToIndex_8c36e 21 = .ok (.athrow, 1) := by decide +kernel
theorem dJ3_checkFromToIndex_8c36e_22 : decode cJ3_checkFromToIndex_8c36e 22 = .ok (.iload_n 0, 1) := by decide +kernel
theorem dJ3_checkFromToIndex_8c36e_23 : decode cJ3_checkFromToIndex_8c36e 23 = .ok (.ireturn, 1) := by decide +kernel
theorem dJ9_max_7cf53_0 : decode cJ9_max_7cf53 0 = .ok (.iload_n 0, 1) := by decide +kernel
theorem dJ9_max_7cf53_1 : decode cJ9_max_7cf53 1 = .ok (.iload_n 1, 1) := by decide +kernel
theorem dJ9_max_7cf53_2 : decode cJ9_max_7cf53 2 = .ok (.if_icmp .lt 7, 3) := by decide +kernel
theorem dJ9_max_7cf53_5 : decode cJ9_max_7cf53 5 = .ok (.iload_n 0, 1) := by decide +kernel
theorem dJ9_max_7cf53_6 : decode cJ9_max_7cf53 6 = .ok (.goto 4, 3) := by decide +kernel
theorem dJ9_max_7cf53_9 : decode cJ9_max_7cf53 9 = .ok (.iload_n 1, 1) := by decide +kernel
theorem dJ9_max_7cf53_10 : decode cJ9_max_7cf53 10 = .ok (.ireturn, 1) := by decide +kernel
theorem dJ9_min_7cf53_0 : decode cJ9_min_7cf53 0 = .ok (.iload_n 0, 1) := by decide +kernel
theorem dJ9_min_7cf53_1 : decode cJ9_min_7cf53 1 = .ok (.iload_n 1, 1) := by decide +kernel
theorem dJ9_min_7cf53_2 : decode cJ9_min_7cf53 2 = .ok (.if_icmp .gt 7, 3) := by decide +kernel
theorem dJ9_min_7cf53_5 : decode cJ9_min_7cf53 5 = .ok (.iload_n 0, 1) := by decide +kernel
theorem dJ9_min_7cf53_6 : decode cJ9_min_7cf53 6 = .ok (.goto 4, 3) := by decide +kernel
theorem dJ9_min_7cf53_9 : decode cJ9_min_7cf53 9 = .ok (.iload_n 1, 1) := by decide +kernel
theorem dJ9_min_7cf53_10 : decode cJ9_min_7cf53 10 = .ok (.ireturn, 1) := by decide +kernel
theorem dL_law_0 : decode cL_law 0 = .ok (.new 7, 3) := by decide +kernel
theorem dL_law_3 : decode cL_law 3 = .ok (.dup, 1) := by decide +kernel
theorem dL_law_4 : decode cL_law 4 = .ok (.invokespecial 9, 3) := by decide +kernel
theorem dL_law_7 : decode cL_law 7 = .ok (.astore_n 1, 1) := by decide +kernel
theorem dL_law_8 : decode cL_law 8 = .ok (.new 10, 3) := by decide +kernel
theorem dL_law_11 : decode cL_law 11 = .ok (.dup, 1) := by decide +kernel
theorem dL_law_12 : decode cL_law 12 = .ok (.invokespecial 12, 3) := by decide +kernel
theorem dL_law_15 : decode cL_law 15 = .ok (.astore_n 2, 1) := by decide +kernel
theorem dL_law_16 : decode cL_law 16 = .ok (.iconst 0, 1) := by decide +kernel
theorem dL_law_17 : decode cL_law 17 = .ok (.istore_n 3, 1) := by decide +kernel
theorem dL_law_18 : decode cL_law 18 = .ok (.iload_n 3, 1) := by decide +kernel
theorem dL_law_19 : decode cL_law 19 = .ok (.aload_n 0, 1) := by decide +kernel
theorem dL_law_20 : decode cL_law 20 = .ok (.arraylength, 1) := by decide +kernel
theorem dL_law_21 : decode cL_law 21 = .ok (.bipush 6, 2) := by decide +kernel
theorem dL_law_23 : decode cL_law 23 = .ok (.isub, 1) := by decide +kernel
theorem dL_law_24 : decode cL_law 24 = .ok (.if_icmp .gt 938, 3) := by decide +kernel
theorem dL_law_27 : decode cL_law 27 = .ok (.aload_n 0, 1) := by decide +kernel
theorem dL_law_28 : decode cL_law 28 = .ok (.iload_n 3, 1) := by decide +kernel
theorem dL_law_29 : decode cL_law 29 = .ok (.iaload, 1) := by decide +kernel
theorem dL_law_30 : decode cL_law 30 = .ok (.bipush 31, 2) := by decide +kernel
theorem dL_law_32 : decode cL_law 32 = .ok (.iand, 1) := by decide +kernel
theorem dL_law_33 : decode cL_law 33 = .ok (.tableswitch 923 0 23 #[111, 154, 187, 220, 243, 296, 349, 412, 445, 458, 491, 534, 587, 630, 653, 716, 749, 772, 825, 838, 851, 864, 877, 900], 111) := by decide +kernel
theorem dL_law_144 : decode cL_law 144 = .ok (.aload_n 1, 1) := by decide +kernel
theorem dL_law_145 : decode cL_law 145 = .ok (.aload_n 0, 1) := by decide +kernel
theorem dL_law_146 : decode cL_law 146 = .ok (.iload_n 3, 1) := by decide +kernel
theorem dL_law_147 : decode cL_law 147 = .ok (.iconst 1, 1) := by decide +kernel
theorem dL_law_148 : decode cL_law 148 = .ok (.iadd, 1) := by decide +kernel
theorem dL_law_149 : decode cL_law 149 = .ok (.iaload, 1) := by decide +kernel
theorem dL_law_150 : decode cL_law 150 = .ok (.aload_n 0, 1) := by decide +kernel
theorem dL_law_151 : decode cL_law 151 = .ok (.iload_n 3, 1) := by decide +kernel
theorem dL_law_152 : decode cL_law 152 = .ok (.iconst 2, 1) := by decide +kernel
theorem dL_law_153 : decode cL_law 153 = .ok (.iadd, 1) := by decide +kernel
theorem dL_law_154 : decode cL_law 154 = .ok (.iaload, 1) := by decide +kernel
theorem dL_law_155 : decode cL_law 155 = .ok (.aload_n 0, 1) := by decide +kernel
theorem dL_law_156 : decode cL_law 156 = .ok (.iload_n 3, 1) := by decide +kernel
theorem dL_law_157 : decode cL_law 157 = .ok (.iconst 3, 1) := by decide +kernel
theorem dL_law_158 : decode cL_law 158 = .ok (.iadd, 1) := by decide +kernel
theorem dL_law_159 : decode cL_law 159 = .ok (.iaload, 1) := by decide +kernel
theorem dL_law_160 : decode cL_law 160 = .ok (.invokevirtual 13, 3) := by decide +kernel
theorem dL_law_163 : decode cL_law 163 = .ok (.aload_n 2, 1) := by decide +kernel
theorem dL_law_164 : decode cL_law 164 = .ok (.aload_n 0, 1) := by decide +kernel
theorem dL_law_165 : decode cL_law 165 = .ok (.iload_n 3, 1) := by decide +kernel
theorem dL_law_166 : decode cL_law 166 = .ok (.iconst 1, 1) := by decide +kernel
theorem dL_law_167 : decode cL_law 167 = .ok (.iadd, 1) := by decide +kernel
theorem dL_law_168 : decode cL_law 168 = .ok (.iaload, 1) := by decide +kernel
theorem dL_law_169 : decode cL_law 169 = .ok (.aload_n 0, 1) := by decide +kernel
theorem dL_law_170 : decode cL_law 170 = .ok (.iload_n 3, 1) := by decide +kernel
theorem dL_law_171 : decode cL_law 171 = .ok (.iconst 2, 1) := by decide +kernel
theorem dL_law_172 : decode cL_law 172 = .ok (.iadd, 1) := by decide +kernel
theorem dL_law_173 : decode cL_law 173 = .ok (.iaload, 1) := by decide +kernel
theorem dL_law_174 : decode cL_law 174 = .ok (.aload_n 0, 1) := by decide +kernel
theorem dL_law_175 : decode cL_law 175 = .ok (.iload_n 3, 1) := by decide +kernel
theorem dL_law_176 : decode cL_law 176 = .ok (.iconst 3, 1) := by decide +kernel
theorem dL_law_177 : decode cL_law 177 = .ok (.iadd, 1) := by decide +kernel
theorem dL_law_178 : decode cL_law 178 = .ok (.iaload, 1) := by decide +kernel
theorem dL_law_179 : decode cL_law 179 = .ok (.invokevirtual 17, 3) := by decide +kernel
theorem dL_law_182 : decode cL_law 182 = .ok (.if_icmp .eq 774, 3) := by decide +kernel
theorem dL_law_185 : decode cL_law 185 = .ok (.iconst 0, 1) := by decide +kernel
theorem dL_law_186 : decode cL_law 186 = .ok (.ireturn, 1) := by decide +kernel
theorem dL_law_187 : decode cL_law 187 = .ok (.aload_n 1, 1) := by decide +kernel
theorem dL_law_188 : decode cL_law 188 = .ok (.aload_n 0, 1) := by decide +kernel
theorem dL_law_189 : decode cL_law 189 = .ok (.iload_n 3, 1) := by decide +kernel
theorem dL_law_190 : decode cL_law 190 = .ok (.iconst 1, 1) := by decide +kernel
theorem dL_law_191 : decode cL_law 191 = .ok (.iadd, 1) := by decide +kernel
theorem dL_law_192 : decode cL_law 192 = .ok (.iaload, 1) := by decide +kernel
theorem dL_law_193 : decode cL_law 193 = .ok (.aload_n 0, 1) := by decide +kernel
theorem dL_law_194 : decode cL_law 194 = .ok (.iload_n 3, 1) := by decide +kernel
theorem dL_law_195 : decode cL_law 195 = .ok (.iconst 2, 1) := by decide +kernel
theorem dL_law_196 : decode cL_law 196 = .ok (.iadd, 1) := by decide +kernel
theorem dL_law_197 : decode cL_law 197 = .ok (.iaload, 1) := by decide +kernel
theorem dL_law_198 : decode cL_law 198 = .ok (.invokevirtual 18, 3) := by decide +kernel
theorem dL_law_201 : decode cL_law 201 = .ok (.aload_n 2, 1) := by decide +kernel
theorem dL_law_202 : decode cL_law 202 = .ok (.aload_n 0, 1) := by decide +kernel
theorem dL_law_203 : decode cL_law 203 = .ok (.iload_n 3, 1) := by decide +kernel
theorem dL_law_204 : decode cL_law 204 = .ok (.iconst 1, 1) := by decide +kernel
theorem dL_law_205 : decode cL_law 205 = .ok (.iadd, 1) := by decide +kernel
theorem dL_law_206 : decode cL_law 206 = .ok (.iaload, 1) := by decide +kernel
theorem dL_law_207 : decode cL_law 207 = .ok (.aload_n 0, 1) := by decide +kernel
theorem dL_law_208 : decode cL_law 208 = .ok (.iload_n 3, 1) := by decide +kernel
theorem dL_law_209 : decode cL_law 209 = .ok (.iconst 2, 1) := by decide +kernel
theorem dL_law_210 : decode cL_law 210 = .ok (.iadd, 1) := by decide +kernel
theorem dL_law_211 : decode cL_law 211 = .ok (.iaload, 1) := by decide +kernel
theorem dL_law_212 : decode cL_law 212 = .ok (.invokevirtual 22, 3) := by decide +kernel
theorem dL_law_215 : decode cL_law 215 = .ok (.if_icmp .eq 741, 3) := by decide +kernel
theorem dL_law_218 : decode cL_law 218 = .ok (.iconst 0, 1) := by decide +kernel
theorem dL_law_219 : decode cL_law 219 = .ok (.ireturn, 1) := by decide +kernel
theorem dL_law_220 : decode cL_law 220 = .ok (.aload_n 1, 1) := by decide +kernel
theorem dL_law_221 : decode cL_law 221 = .ok (.aload_n 0, 1) := by decide +kernel
theorem dL_law_222 : decode cL_law 222 = .ok (.iload_n 3, 1) := by decide +kernel
theorem dL_law_223 : decode cL_law 223 = .ok (.iconst 1, 1) := by decide +kernel
theorem dL_law_224 : decode cL_law 224 = .ok (.iadd, 1) := by decide +kernel
theorem dL_law_225 : decode cL_law 225 = .ok (.iaload, 1) := by decide +kernel
theorem dL_law_226 : decode cL_law 226 = .ok (.aload_n 0, 1) := by decide +kernel
theorem dL_law_227 : decode cL_law 227 = .ok (.iload_n 3, 1) := by decide +kernel
theorem dL_law_228 : decode cL_law 228 = .ok (.iconst 2, 1) := by decide +kernel
theorem dL_law_229 : decode cL_law 229 = .ok (.iadd, 1) := by decide +kernel
theorem dL_law_230 : decode cL_law 230 = .ok (.iaload, 1) := by decide +kernel
theorem dL_law_231 : decode cL_law 231 = .ok (.invokevirtual 23, 3) := by decide +kernel
theorem dL_law_234 : decode cL_law 234 = .ok (.aload_n 2, 1) := by decide +kernel
theorem dL_law_235 : decode cL_law 235 = .ok (.aload_n 0, 1) := by decide +kernel
theorem dL_law_236 : decode cL_law 236 = .ok (.iload_n 3, 1) := by decide +kernel
theorem dL_law_237 : decode cL_law 237 = .ok (.iconst 1, 1) := by decide +kernel
theorem dL_law_238 : decode cL_law 238 = .ok (.iadd, 1) := by decide +kernel
theorem dL_law_239 : decode cL_law 239 = .ok (.iaload, 1) := by decide +kernel
theorem dL_law_240 : decode cL_law 240 = .ok (.aload_n 0, 1) := by decide +kernel
theorem dL_law_241 : decode cL_law 241 = .ok (.iload_n 3, 1) := by decide +kernel
theorem dL_law_242 : decode cL_law 242 = .ok (.iconst 2, 1) := by decide +kernel
theorem dL_law_243 : decode cL_law 243 = .ok (.iadd, 1) := by decide +kernel
theorem dL_law_244 : decode cL_law 244 = .ok (.iaload, 1) := by decide +kernel
theorem dL_law_245 : decode cL_law 245 = .ok (.invokevirtual 26, 3) := by decide +kernel
theorem dL_law_248 : decode cL_law 248 = .ok (.if_icmp .eq 708, 3) := by decide +kernel
theorem dL_law_251 : decode cL_law 251 = .ok (.iconst 0, 1) := by decide +kernel
theorem dL_law_252 : decode cL_law 252 = .ok (.ireturn, 1) := by decide +kernel
theorem dL_law_253 : decode cL_law 253 = .ok (.aload_n 1, 1) := by decide +kernel
theorem dL_law_254 : decode cL_law 254 = .ok (.aload_n 0, 1) := by decide +kernel
theorem dL_law_255 : decode cL_law 255 = .ok (.iload_n 3, 1) := by decide +kernel
theorem dL_law_256 : decode cL_law 256 = .ok (.iconst 1, 1) := by decide +kernel
theorem dL_law_257 : decode cL_law 257 = .ok (.iadd, 1) := by decide +kernel
theorem dL_law_258 : decode cL_law 258 = .ok (.iaload, 1) := by decide +kernel
theorem dL_law_259 : decode cL_law 259 = .ok (.invokevirtual 27, 3) := by decide +kernel
theorem dL_law_262 : decode cL_law 262 = .ok (.aload_n 2, 1) := by decide +kernel
theorem dL_law_263 : decode cL_law 263 = .ok (.aload_n 0, 1) := by decide +kernel
theorem dL_law_264 : decode cL_law 264 = .ok (.iload_n 3, 1) := by decide +kernel
theorem dL_law_265 : decode cL_law 265 = .ok (.iconst 1, 1) := by decide +kernel
theorem dL_law_266 : decode cL_law 266 = .ok (.iadd, 1) := by decide +kernel
theorem dL_law_267 : decode cL_law 267 = .ok (.iaload, 1) := by decide +kernel
theorem dL_law_268 : decode cL_law 268 = .ok (.invokevirtual 31, 3) := by decide +kernel
theorem dL_law_271 : decode cL_law 271 = .ok (.if_icmp .eq 685, 3) := by decide +kernel
theorem dL_law_274 : decode cL_law 274 = .ok (.iconst 0, 1) := by decide +kernel
theorem dL_law_275 : decode cL_law 275 = .ok (.ireturn, 1) := by decide +kernel
theorem dL_law_276 : decode cL_law 276 = .ok (.aload_n 1, 1) := by decide +kernel
theorem dL_law_277 : decode cL_law 277 = .ok (.aload_n 0, 1) := by decide +kernel
theorem dL_law_278 : decode cL_law 278 = .ok (.iload_n 3, 1) := by decide +kernel
theorem dL_law_279 : decode cL_law 279 = .ok (.iconst 1, 1) := by decide +kernel
theorem dL_law_280 : decode cL_law 280 = .ok (.iadd, 1) := by decide +kernel
theorem dL_law_281 : decode cL_law 281 = .ok (.iaload, 1) := by decide +kernel
theorem dL_law_282 : decode cL_law 282 = .ok (.aload_n 0, 1) := by decide +kernel
theorem dL_law_283 : decode cL_law 283 = .ok (.iload_n 3, 1) := by decide +kernel
theorem dL_law_284 : decode cL_law 284 = .ok (.iconst 2, 1) := by decide +kernel
theorem dL_law_285 : decode cL_law 285 = .ok (.iadd, 1) := by decide +kernel
theorem dL_law_286 : decode cL_law 286 = .ok (.iaload, 1) := by decide +kernel
theorem dL_law_287 : decode cL_law 287 = .ok (.aload_n 0, 1) := by decide +kernel
theorem dL_law_288 : decode cL_law 288 = .ok (.iload_n 3, 1) := by decide +kernel
theorem dL_law_289 : decode cL_law 289 = .ok (.iconst 3, 1) := by decide +kernel
theorem dL_law_290 : decode cL_law 290 = .ok (.iadd, 1) := by decide +kernel
theorem dL_law_291 : decode cL_law 291 = .ok (.iaload, 1) := by decide +kernel
theorem dL_law_292 : decode cL_law 292 = .ok (.aload_n 0, 1) := by decide +kernel
theorem dL_law_293 : decode cL_law 293 = .ok (.iload_n 3, 1) := by decide +kernel
theorem dL_law_294 : decode cL_law 294 = .ok (.iconst 4, 1) := by decide +kernel
theorem dL_law_295 : decode cL_law 295 = .ok (.iadd, 1) := by decide +kernel
theorem dL_law_296 : decode cL_law 296 = .ok (.iaload, 1) := by decide +kernel
theorem dL_law_297 : decode cL_law 297 = .ok (.invokevirtual 32, 3) := by decide +kernel
theorem dL_law_300 : decode cL_law 300 = .ok (.aload_n 2, 1) := by decide +kernel
theorem dL_law_301 : decode cL_law 301 = .ok (.aload_n 0, 1) := by decide +kernel
theorem dL_law_302 : decode cL_law 302 = .ok (.iload_n 3, 1) := by decide +kernel
theorem dL_law_303 : decode cL_law 303 = .ok (.iconst 1, 1) := by decide +kernel
theorem dL_law_304 : decode cL_law 304 = .ok (.iadd, 1) := by decide +kernel
theorem dL_law_305 : decode cL_law 305 = .ok (.iaload, 1) := by decide +kernel
theorem dL_law_306 : decode cL_law 306 = .ok (.aload_n 0, 1) := by decide +kernel
theorem dL_law_307 : decode cL_law 307 = .ok (.iload_n 3, 1) := by decide +kernel
theorem dL_law_308 : decode cL_law 308 = .ok (.iconst 2, 1) := by decide +kernel
theorem dL_law_309 : decode cL_law 309 = .ok (.iadd, 1) := by decide +kernel
theorem dL_law_310 : decode cL_law 310 = .ok (.iaload, 1) := by decide +kernel
theorem dL_law_311 : decode cL_law 311 = .ok (.aload_n 0, 1) := by decide +kernel
theorem dL_law_312 : decode cL_law 312 = .ok (.iload_n 3, 1) := by decide +kernel
theorem dL_law_313 : decode cL_law 313 = .ok (.iconst 3, 1) := by decide +kernel
theorem dL_law_314 : decode cL_law 314 = .ok (.iadd, 1) := by decide +kernel
theorem dL_law_315 : decode cL_law 315 = .ok (.iaload, 1) := by decide +kernel
theorem dL_law_316 : decode cL_law 316 = .ok (.aload_n 0, 1) := by decide +kernel
theorem dL_law_317 : decode cL_law 317 = .ok (.iload_n 3, 1) := by decide +kernel
theorem dL_law_318 : decode cL_law 318 = .ok (.iconst 4, 1) := by decide +kernel
theorem dL_law_319 : decode cL_law 319 = .ok (.iadd, 1) := by decide +kernel
theorem dL_law_320 : decode cL_law 320 = .ok (.iaload, 1) := by decide +kernel
theorem dL_law_321 : decode cL_law 321 = .ok (.invokevirtual 36, 3) := by decide +kernel
theorem dL_law_324 : decode cL_law 324 = .ok (.if_icmp .eq 632, 3) := by decide +kernel
theorem dL_law_327 : decode cL_law 327 = .ok (.iconst 0, 1) := by decide +kernel
theorem dL_law_328 : decode cL_law 328 = .ok (.ireturn, 1) := by decide +kernel
theorem dL_law_329 : decode cL_law 329 = .ok (.aload_n 1, 1) := by decide +kernel
theorem dL_law_330 : decode cL_law 330 = .ok (.aload_n 0, 1) := by decide +kernel
theorem dL_law_331 : decode cL_law 331 = .ok (.iload_n 3, 1) := by decide +kernel
theorem dL_law_332 : decode cL_law 332 = .ok (.iconst 1, 1) := by decide +kernel
theorem dL_law_333 : decode cL_law 333 = .ok (.iadd, 1) := by decide +kernel
theorem dL_law_334 : decode cL_law 334 = .ok (.iaload, 1) := by decide +kernel
theorem dL_law_335 : decode cL_law 335 = .ok (.aload_n 0, 1) := by decide +kernel
theorem dL_law_336 : decode cL_law 336 = .ok (.iload_n 3, 1) := by decide +kernel
theorem dL_law_337 : decode cL_law 337 = .ok (.iconst 2, 1) := by decide +kernel
theorem dL_law_338 : decode cL_law 338 = .ok (.iadd, 1) := by decide +kernel
theorem dL_law_339 : decode cL_law 339 = .ok (.iaload, 1) := by decide +kernel
theorem dL_law_340 : decode cL_law 340 = .ok (.aload_n 0, 1) := by decide +kernel
theorem dL_law_341 : decode cL_law 341 = .ok (.iload_n 3, 1) := by decide +kernel
theorem dL_law_342 : decode cL_law 342 = .ok (.iconst 3, 1) := by decide +kernel
theorem dL_law_343 : decode cL_law 343 = .ok (.iadd, 1) := by decide +kernel
theorem dL_law_344 : decode cL_law 344 = .ok (.iaload, 1) := by decide +kernel
theorem dL_law_345 : decode cL_law 345 = .ok (.aload_n 0, 1) := by decide +kernel
theorem dL_law_346 : decode cL_law 346 = .ok (.iload_n 3, 1) := by decide +kernel
theorem dL_law_347 : decode cL_law 347 = .ok (.iconst 4, 1) := by decide +kernel
theorem dL_law_348 : decode cL_law 348 = .ok (.iadd, 1) := by decide +kernel
theorem dL_law_349 : decode cL_law 349 = .ok (.iaload, 1) := by decide +kernel
theorem dL_law_350 : decode cL_law 350 = .ok (.invokevirtual 37, 3) := by decide +kernel
theorem dL_law_353 : decode cL_law 353 = .ok (.aload_n 2, 1) := by decide +kernel
theorem dL_law_354 : decode cL_law 354 = .ok (.aload_n 0, 1) := by decide +kernel
theorem dL_law_355 : decode cL_law 355 = .ok (.iload_n 3, 1) := by decide +kernel
theorem dL_law_356 : decode cL_law 356 = .ok (.iconst 1, 1) := by decide +kernel
theorem dL_law_357 : decode cL_law 357 = .ok (.iadd, 1) := by decide +kernel
theorem dL_law_358 : decode cL_law 358 = .ok (.iaload, 1) := by decide +kernel
theorem dL_law_359 : decode cL_law 359 = .ok (.aload_n 0, 1) := by decide +kernel
theorem dL_law_360 : decode cL_law 360 = .ok (.iload_n 3, 1) := by decide +kernel
theorem dL_law_361 : decode cL_law 361 = .ok (.iconst 2, 1) := by decide +kernel
theorem dL_law_362 : decode cL_law 362 = .ok (.iadd, 1) := by decide +kernel
theorem dL_law_363 : decode cL_law 363 = .ok (.iaload, 1) := by decide +kernel
theorem dL_law_364 : decode cL_law 364 = .ok (.aload_n 0, 1) := by decide +kernel
theorem dL_law_365 : decode cL_law 365 = .ok (.iload_n 3, 1) := by decide +kernel
theorem dL_law_366 : decode cL_law 366 = .ok (.iconst 3, 1) := by decide +kernel
theorem dL_law_367 : decode cL_law 367 = .ok (.iadd, 1) := by decide +kernel
theorem dL_law_368 : decode cL_law 368 = .ok (.iaload, 1) := by decide +kernel
theorem dL_law_369 : decode cL_law 369 = .ok (.aload_n 0, 1) := by decide +kernel
theorem dL_law_370 : decode cL_law 370 = .ok (.iload_n 3, 1) := by decide +kernel
theorem dL_law_371 : decode cL_law 371 = .ok (.iconst 4, 1) := by decide +kernel
theorem dL_law_372 : decode cL_law 372 = .ok (.iadd, 1) := by decide +kernel
theorem dL_law_373 : decode cL_law 373 = .ok (.iaload, 1) := by decide +kernel
theorem dL_law_374 : decode cL_law 374 = .ok (.invokevirtual 40, 3) := by decide +kernel
theorem dL_law_377 : decode cL_law 377 = .ok (.if_icmp .eq 579, 3) := by decide +kernel
theorem dL_law_380 : decode cL_law 380 = .ok (.iconst 0, 1) := by decide +kernel
theorem dL_law_381 : decode cL_law 381 = .ok (.ireturn, 1) := by decide +kernel
theorem dL_law_382 : decode cL_law 382 = .ok (.aload_n 1, 1) := by decide +kernel
theorem dL_law_383 : decode cL_law 383 = .ok (.aload_n 0, 1) := by decide +kernel
theorem dL_law_384 : decode cL_law 384 = .ok (.iload_n 3, 1) := by decide +kernel
theorem dL_law_385 : decode cL_law 385 = .ok (.iconst 1, 1) := by decide +kernel
theorem dL_law_386 : decode cL_law 386 = .ok (.iadd, 1) := by decide +kernel
theorem dL_law_387 : decode cL_law 387 = .ok (.iaload, 1) := by decide +kernel
theorem dL_law_388 : decode cL_law 388 = .ok (.aload_n 0, 1) := by decide +kernel
theorem dL_law_389 : decode cL_law 389 = .ok (.iload_n 3, 1) := by decide +kernel
theorem dL_law_390 : decode cL_law 390 = .ok (.iconst 2, 1) := by decide +kernel
theorem dL_law_391 : decode cL_law 391 = .ok (.iadd, 1) := by decide +kernel
theorem dL_law_392 : decode cL_law 392 = .ok (.iaload, 1) := by decide +kernel
theorem dL_law_393 : decode cL_law 393 = .ok (.aload_n 0, 1) := by decide +kernel
theorem dL_law_394 : decode cL_law 394 = .ok (.iload_n 3, 1) := by decide +kernel
theorem dL_law_395 : decode cL_law 395 = .ok (.iconst 3, 1) := by decide +kernel
theorem dL_law_396 : decode cL_law 396 = .ok (.iadd, 1) := by decide +kernel
theorem dL_law_397 : decode cL_law 397 = .ok (.iaload, 1) := by decide +kernel
theorem dL_law_398 : decode cL_law 398 = .ok (.aload_n 0, 1) := by decide +kernel
theorem dL_law_399 : decode cL_law 399 = .ok (.iload_n 3, 1) := by decide +kernel
theorem dL_law_400 : decode cL_law 400 = .ok (.iconst 4, 1) := by decide +kernel
theorem dL_law_401 : decode cL_law 401 = .ok (.iadd, 1) := by decide +kernel
theorem dL_law_402 : decode cL_law 402 = .ok (.iaload, 1) := by decide +kernel
theorem dL_law_403 : decode cL_law 403 = .ok (.aload_n 0, 1) := by decide +kernel
theorem dL_law_404 : decode cL_law 404 = .ok (.iload_n 3, 1) := by decide +kernel
theorem dL_law_405 : decode cL_law 405 = .ok (.iconst 5, 1) := by decide +kernel
theorem dL_law_406 : decode cL_law 406 = .ok (.iadd, 1) := by decide +kernel
theorem dL_law_407 : decode cL_law 407 = .ok (.iaload, 1) := by decide +kernel
theorem dL_law_408 : decode cL_law 408 = .ok (.invokevirtual 41, 3) := by decide +kernel
theorem dL_law_411 : decode cL_law 411 = .ok (.aload_n 2, 1) := by decide +kernel
theorem dL_law_412 : decode cL_law 412 = .ok (.aload_n 0, 1) := by decide +kernel
theorem dL_law_413 : decode cL_law 413 = .ok (.iload_n 3, 1) := by decide +kernel
theorem dL_law_414 : decode cL_law 414 = .ok (.iconst 1, 1) := by decide +kernel
theorem dL_law_415 : decode cL_law 415 = .ok (.iadd, 1) := by decide +kernel
theorem dL_law_416 : decode cL_law 416 = .ok (.iaload, 1) := by decide +kernel
theorem dL_law_417 : decode cL_law 417 = .ok (.aload_n 0, 1) := by decide +kernel
theorem dL_law_418 : decode cL_law 418 = .ok (.iload_n 3, 1) := by decide +kernel
theorem dL_law_419 : decode cL_law 419 = .ok (.iconst 2, 1) := by decide +kernel
theorem dL_law_420 : decode cL_law 420 = .ok (.iadd, 1) := by decide +kernel
theorem dL_law_421 : decode cL_law 421 = .ok (.iaload, 1) := by decide +kernel
theorem dL_law_422 : decode cL_law 422 = .ok (.aload_n 0, 1) := by decide +kernel
theorem dL_law_423 : decode cL_law 423 = .ok (.iload_n 3, 1) := by decide +kernel
theorem dL_law_424 : decode cL_law 424 = .ok (.iconst 3, 1) := by decide +kernel
theorem dL_law_425 : decode cL_law 425 = .ok (.iadd, 1) := by decide +kernel
theorem dL_law_426 : decode cL_law 426 = .ok (.iaload, 1) := by decide +kernel
theorem dL_law_427 : decode cL_law 427 = .ok (.aload_n 0, 1) := by decide +kernel
theorem dL_law_428 : decode cL_law 428 = .ok (.iload_n 3, 1) := by decide +kernel
theorem dL_law_429 : decode cL_law 429 = .ok (.iconst 4, 1) := by decide +kernel
theorem dL_law_430 : decode cL_law 430 = .ok (.iadd, 1) := by decide +kernel
theorem dL_law_431 : decode cL_law 431 = .ok (.iaload, 1) := by decide +kernel
theorem dL_law_432 : decode cL_law 432 = .ok (.aload_n 0, 1) := by decide +kernel
theorem dL_law_433 : decode cL_law 433 = .ok (.iload_n 3, 1) := by decide +kernel
theorem dL_law_434 : decode cL_law 434 = .ok (.iconst 5, 1) := by decide +kernel
theorem dL_law_435 : decode cL_law 435 = .ok (.iadd, 1) := by decide +kernel
theorem dL_law_436 : decode cL_law 436 = .ok (.iaload, 1) := by decide +kernel
theorem dL_law_437 : decode cL_law 437 = .ok (.invokevirtual 45, 3) := by decide +kernel
theorem dL_law_440 : decode cL_law 440 = .ok (.if_icmp .eq 516, 3) := by decide +kernel
theorem dL_law_443 : decode cL_law 443 = .ok (.iconst 0, 1) := by decide +kernel
theorem dL_law_444 : decode cL_law 444 = .ok (.ireturn, 1) := by decide +kernel
theorem dL_law_445 : decode cL_law 445 = .ok (.aload_n 1, 1) := by decide +kernel
theorem dL_law_446 : decode cL_law 446 = .ok (.aload_n 0, 1) := by decide +kernel
theorem dL_law_447 : decode cL_law 447 = .ok (.iload_n 3, 1) := by decide +kernel
theorem dL_law_448 : decode cL_law 448 = .ok (.iconst 1, 1) := by decide +kernel
theorem dL_law_449 : decode cL_law 449 = .ok (.iadd, 1) := by decide +kernel
theorem dL_law_450 : decode cL_law 450 = .ok (.iaload, 1) := by decide +kernel
theorem dL_law_451 : decode cL_law 451 = .ok (.aload_n 0, 1) := by decide +kernel
theorem dL_law_452 : decode cL_law 452 = .ok (.iload_n 3, 1) := by decide +kernel
theorem dL_law_453 : decode cL_law 453 = .ok (.iconst 2, 1) := by decide +kernel
theorem dL_law_454 : decode cL_law 454 = .ok (.iadd, 1) := by decide +kernel
theorem dL_law_455 : decode cL_law 455 = .ok (.iaload, 1) := by decide +kernel
theorem dL_law_456 : decode cL_law 456 = .ok (.invokevirtual 46, 3) := by decide +kernel
theorem dL_law_459 : decode cL_law 459 = .ok (.aload_n 2, 1) := by decide +kernel
theorem dL_law_460 : decode cL_law 460 = .ok (.aload_n 0, 1) := by decide +kernel
theorem dL_law_461 : decode cL_law 461 = .ok (.iload_n 3, 1) := by decide +kernel
theorem dL_law_462 : decode cL_law 462 = .ok (.iconst 1, 1) := by decide +kernel
theorem dL_law_463 : decode cL_law 463 = .ok (.iadd, 1) := by decide +kernel
theorem dL_law_464 : decode cL_law 464 = .ok (.iaload, 1) := by decide +kernel
theorem dL_law_465 : decode cL_law 465 = .ok (.aload_n 0, 1) := by decide +kernel
theorem dL_law_466 : decode cL_law 466 = .ok (.iload_n 3, 1) := by decide +kernel
theorem dL_law_467 : decode cL_law 467 = .ok (.iconst 2, 1) := by decide +kernel
theorem dL_law_468 : decode cL_law 468 = .ok (.iadd, 1) := by decide +kernel
theorem dL_law_469 : decode cL_law 469 = .ok (.iaload, 1) := by decide +kernel
theorem dL_law_470 : decode cL_law 470 = .ok (.invokevirtual 49, 3) := by decide +kernel
theorem dL_law_473 : decode cL_law 473 = .ok (.if_icmp .eq 483, 3) := by decide +kernel
theorem dL_law_476 : decode cL_law 476 = .ok (.iconst 0, 1) := by decide +kernel
theorem dL_law_477 : decode cL_law 477 = .ok (.ireturn, 1) := by decide +kernel
theorem dL_law_478 : decode cL_law 478 = .ok (.aload_n 1, 1) := by decide +kernel
theorem dL_law_479 : decode cL_law 479 = .ok (.invokevirtual 50, 3) := by decide +kernel
theorem dL_law_482 : decode cL_law 482 = .ok (.aload_n 2, 1) := by decide +kernel
theorem dL_law_483 : decode cL_law 483 = .ok (.invokevirtual 54, 3) := by decide +kernel
theorem dL_law_486 : decode cL_law 486 = .ok (.if_icmp .eq 470, 3) := by decide +kernel
theorem dL_law_489 : decode cL_law 489 = .ok (.iconst 0, 1) := by decide +kernel
theorem dL_law_490 : decode cL_law 490 = .ok (.ireturn, 1) := by decide +kernel
theorem dL_law_491 : decode cL_law 491 = .ok (.aload_n 1, 1) := by decide +kernel
theorem dL_law_492 : decode cL_law 492 = .ok (.aload_n 0, 1) := by decide +kernel
theorem dL_law_493 : decode cL_law 493 = .ok (.iload_n 3, 1) := by decide +kernel
theorem dL_law_494 : decode cL_law 494 = .ok (.iconst 1, 1) := by decide +kernel
theorem dL_law_495 : decode cL_law 495 = .ok (.iadd, 1) := by decide +kernel
theorem dL_law_496 : decode cL_law 496 = .ok (.iaload, 1) := by decide +kernel
theorem dL_law_497 : decode cL_law 497 = .ok (.aload_n 0, 1) := by decide +kernel
theorem dL_law_498 : decode cL_law 498 = .ok (.iload_n 3, 1) := by decide +kernel
theorem dL_law_499 : decode cL_law 499 = .ok (.iconst 2, 1) := by decide +kernel
theorem dL_law_500 : decode cL_law 500 = .ok (.iadd, 1) := by decide +kernel
theorem dL_law_501 : decode cL_law 501 = .ok (.iaload, 1) := by decide +kernel
theorem dL_law_502 : decode cL_law 502 = .ok (.invokevirtual 55, 3) := by decide +kernel
theorem dL_law_505 : decode cL_law 505 = .ok (.aload_n 2, 1) := by decide +kernel
theorem dL_law_506 : decode cL_law 506 = .ok (.aload_n 0, 1) := by decide +kernel
theorem dL_law_507 : decode cL_law 507 = .ok (.iload_n 3, 1) := by decide +kernel
theorem dL_law_508 : decode cL_law 508 = .ok (.iconst 1, 1) := by decide +kernel
theorem dL_law_509 : decode cL_law 509 = .ok (.iadd, 1) := by decide +kernel
theorem dL_law_510 : decode cL_law 510 = .ok (.iaload, 1) := by decide +kernel
theorem dL_law_511 : decode cL_law 511 = .ok (.aload_n 0, 1) := by decide +kernel
theorem dL_law_512 : decode cL_law 512 = .ok (.iload_n 3, 1) := by decide +kernel
theorem dL_law_513 : decode cL_law 513 = .ok (.iconst 2, 1) := by decide +kernel
theorem dL_law_514 : decode cL_law 514 = .ok (.iadd, 1) := by decide +kernel
theorem dL_law_515 : decode cL_law 515 = .ok (.iaload, 1) := by decide +kernel
theorem dL_law_516 : decode cL_law 516 = .ok (.invokevirtual 58, 3) := by decide +kernel
theorem dL_law_519 : decode cL_law 519 = .ok (.if_icmp .eq 437, 3) := by decide +kernel
theorem dL_law_522 : decode cL_law 522 = .ok (.iconst 0, 1) := by decide +kernel
theorem dL_law_523 : decode cL_law 523 = .ok (.ireturn, 1) := by decide +kernel
theorem dL_law_524 : decode cL_law 524 = .ok (.aload_n 1, 1) := by decide +kernel
theorem dL_law_525 : decode cL_law 525 = .ok (.aload_n 0, 1) := by decide +kernel
theorem dL_law_526 : decode cL_law 526 = .ok (.iload_n 3, 1) := by decide +kernel
theorem dL_law_527 : decode cL_law 527 = .ok (.iconst 1, 1) := by decide +kernel
theorem dL_law_528 : decode cL_law 528 = .ok (.iadd, 1) := by decide +kernel
theorem dL_law_529 : decode cL_law 529 = .ok (.iaload, 1) := by decide +kernel
theorem dL_law_530 : decode cL_law 530 = .ok (.aload_n 0, 1) := by decide +kernel
theorem dL_law_531 : decode cL_law 531 = .ok (.iload_n 3, 1) := by decide +kernel
theorem dL_law_532 : decode cL_law 532 = .ok (.iconst 2, 1) := by decide +kernel
theorem dL_law_533 : decode cL_law 533 = .ok (.iadd, 1) := by decide +kernel
theorem dL_law_534 : decode cL_law 534 = .ok (.iaload, 1) := by decide +kernel
theorem dL_law_535 : decode cL_law 535 = .ok (.aload_n 0, 1) := by decide +kernel
theorem dL_law_536 : decode cL_law 536 = .ok (.iload_n 3, 1) := by decide +kernel
theorem dL_law_537 : decode cL_law 537 = .ok (.iconst 3, 1) := by decide +kernel
theorem dL_law_538 : decode cL_law 538 = .ok (.iadd, 1) := by decide +kernel
theorem dL_law_539 : decode cL_law 539 = .ok (.iaload, 1) := by decide +kernel
theorem dL_law_540 : decode cL_law 540 = .ok (.invokevirtual 59, 3) := by decide +kernel
theorem dL_law_543 : decode cL_law 543 = .ok (.aload_n 2, 1) := by decide +kernel
theorem dL_law_544 : decode cL_law 544 = .ok (.aload_n 0, 1) := by decide +kernel
theorem dL_law_545 : decode cL_law 545 = .ok (.iload_n 3, 1) := by decide +kernel
theorem dL_law_546 : decode cL_law 546 = .ok (.iconst 1, 1) := by decide +kernel
theorem dL_law_547 : decode cL_law 547 = .ok (.iadd, 1) := by decide +kernel
theorem dL_law_548 : decode cL_law 548 = .ok (.iaload, 1) := by decide +kernel
theorem dL_law_549 : decode cL_law 549 = .ok (.aload_n 0, 1) := by decide +kernel
theorem dL_law_550 : decode cL_law 550 = .ok (.iload_n 3, 1) := by decide +kernel
theorem dL_law_551 : decode cL_law 551 = .ok (.iconst 2, 1) := by decide +kernel
theorem dL_law_552 : decode cL_law 552 = .ok (.iadd, 1) := by decide +kernel
theorem dL_law_553 : decode cL_law 553 = .ok (.iaload, 1) := by decide +kernel
theorem dL_law_554 : decode cL_law 554 = .ok (.aload_n 0, 1) := by decide +kernel
theorem dL_law_555 : decode cL_law 555 = .ok (.iload_n 3, 1) := by decide +kernel
theorem dL_law_556 : decode cL_law 556 = .ok (.iconst 3, 1) := by decide +kernel
theorem dL_law_557 : decode cL_law 557 = .ok (.iadd, 1) := by decide +kernel
theorem dL_law_558 : decode cL_law 558 = .ok (.iaload, 1) := by decide +kernel
theorem dL_law_559 : decode cL_law 559 = .ok (.invokevirtual 62, 3) := by decide +kernel
theorem dL_law_562 : decode cL_law 562 = .ok (.if_icmp .eq 394, 3) := by decide +kernel
theorem dL_law_565 : decode cL_law 565 = .ok (.iconst 0, 1) := by decide +kernel
theorem dL_law_566 : decode cL_law 566 = .ok (.ireturn, 1) := by decide +kernel
theorem dL_law_567 : decode cL_law 567 = .ok (.aload_n 1, 1) := by decide +kernel
theorem dL_law_568 : decode cL_law 568 = .ok (.aload_n 0, 1) := by decide +kernel
theorem dL_law_569 : decode cL_law 569 = .ok (.iload_n 3, 1) := by decide +kernel
theorem dL_law_570 : decode cL_law 570 = .ok (.iconst 1, 1) := by decide +kernel
theorem dL_law_571 : decode cL_law 571 = .ok (.iadd, 1) := by decide +kernel
theorem dL_law_572 : decode cL_law 572 = .ok (.iaload, 1) := by decide +kernel
theorem dL_law_573 : decode cL_law 573 = .ok (.aload_n 0, 1) := by decide +kernel
theorem dL_law_574 : decode cL_law 574 = .ok (.iload_n 3, 1) := by decide +kernel
theorem dL_law_575 : decode cL_law 575 = .ok (.iconst 2, 1) := by decide +kernel
theorem dL_law_576 : decode cL_law 576 = .ok (.iadd, 1) := by decide +kernel
theorem dL_law_577 : decode cL_law 577 = .ok (.iaload, 1) := by decide +kernel
theorem dL_law_578 : decode cL_law 578 = .ok (.aload_n 0, 1) := by decide +kernel
theorem dL_law_579 : decode cL_law 579 = .ok (.iload_n 3, 1) := by decide +kernel
theorem dL_law_580 : decode cL_law 580 = .ok (.iconst 3, 1) := by decide +kernel
theorem dL_law_581 : decode cL_law 581 = .ok (.iadd, 1) := by decide +kernel
theorem dL_law_582 : decode cL_law 582 = .ok (.iaload, 1) := by decide +kernel
theorem dL_law_583 : decode cL_law 583 = .ok (.aload_n 0, 1) := by decide +kernel
theorem dL_law_584 : decode cL_law 584 = .ok (.iload_n 3, 1) := by decide +kernel
theorem dL_law_585 : decode cL_law 585 = .ok (.iconst 4, 1) := by decide +kernel
theorem dL_law_586 : decode cL_law 586 = .ok (.iadd, 1) := by decide +kernel
theorem dL_law_587 : decode cL_law 587 = .ok (.iaload, 1) := by decide +kernel
theorem dL_law_588 : decode cL_law 588 = .ok (.invokevirtual 63, 3) := by decide +kernel
theorem dL_law_591 : decode cL_law 591 = .ok (.aload_n 2, 1) := by decide +kernel
theorem dL_law_592 : decode cL_law 592 = .ok (.aload_n 0, 1) := by decide +kernel
theorem dL_law_593 : decode cL_law 593 = .ok (.iload_n 3, 1) := by decide +kernel
theorem dL_law_594 : decode cL_law 594 = .ok (.iconst 1, 1) := by decide +kernel
theorem dL_law_595 : decode cL_law 595 = .ok (.iadd, 1) := by decide +kernel
theorem dL_law_596 : decode cL_law 596 = .ok (.iaload, 1) := by decide +kernel
theorem dL_law_597 : decode cL_law 597 = .ok (.aload_n 0, 1) := by decide +kernel
theorem dL_law_598 : decode cL_law 598 = .ok (.iload_n 3, 1) := by decide +kernel
theorem dL_law_599 : decode cL_law 599 = .ok (.iconst 2, 1) := by decide +kernel
theorem dL_law_600 : decode cL_law 600 = .ok (.iadd, 1) := by decide +kernel
theorem dL_law_601 : decode cL_law 601 = .ok (.iaload, 1) := by decide +kernel
theorem dL_law_602 : decode cL_law 602 = .ok (.aload_n 0, 1) := by decide +kernel
theorem dL_law_603 : decode cL_law 603 = .ok (.iload_n 3, 1) := by decide +kernel
theorem dL_law_604 : decode cL_law 604 = .ok (.iconst 3, 1) := by decide +kernel
theorem dL_law_605 : decode cL_law 605 = .ok (.iadd, 1) := by decide +kernel
theorem dL_law_606 : decode cL_law 606 = .ok (.iaload, 1) := by decide +kernel
theorem dL_law_607 : decode cL_law 607 = .ok (.aload_n 0, 1) := by decide +kernel
theorem dL_law_608 : decode cL_law 608 = .ok (.iload_n 3, 1) := by decide +kernel
theorem dL_law_609 : decode cL_law 609 = .ok (.iconst 4, 1) := by decide +kernel
theorem dL_law_610 : decode cL_law 610 = .ok (.iadd, 1) := by decide +kernel
theorem dL_law_611 : decode cL_law 611 = .ok (.iaload, 1) := by decide +kernel
theorem dL_law_612 : decode cL_law 612 = .ok (.invokevirtual 66, 3) := by decide +kernel
theorem dL_law_615 : decode cL_law 615 = .ok (.if_icmp .eq 341, 3) := by decide +kernel
theorem dL_law_618 : decode cL_law 618 = .ok (.iconst 0, 1) := by decide +kernel
theorem dL_law_619 : decode cL_law 619 = .ok (.ireturn, 1) := by decide +kernel
theorem dL_law_620 : decode cL_law 620 = .ok (.aload_n 1, 1) := by decide +kernel
theorem dL_law_621 : decode cL_law 621 = .ok (.aload_n 0, 1) := by decide +kernel
theorem dL_law_622 : decode cL_law 622 = .ok (.iload_n 3, 1) := by decide +kernel
theorem dL_law_623 : decode cL_law 623 = .ok (.iconst 1, 1) := by decide +kernel
theorem dL_law_624 : decode cL_law 624 = .ok (.iadd, 1) := by decide +kernel
theorem dL_law_625 : decode cL_law 625 = .ok (.iaload, 1) := by decide +kernel
theorem dL_law_626 : decode cL_law 626 = .ok (.aload_n 0, 1) := by decide +kernel
theorem dL_law_627 : decode cL_law 627 = .ok (.iload_n 3, 1) := by decide +kernel
theorem dL_law_628 : decode cL_law 628 = .ok (.iconst 2, 1) := by decide +kernel
theorem dL_law_629 : decode cL_law 629 = .ok (.iadd, 1) := by decide +kernel
theorem dL_law_630 : decode cL_law 630 = .ok (.iaload, 1) := by decide +kernel
theorem dL_law_631 : decode cL_law 631 = .ok (.aload_n 0, 1) := by decide +kernel
theorem dL_law_632 : decode cL_law 632 = .ok (.iload_n 3, 1) := by decide +kernel
theorem dL_law_633 : decode cL_law 633 = .ok (.iconst 3, 1) := by decide +kernel
theorem dL_law_634 : decode cL_law 634 = .ok (.iadd, 1) := by decide +kernel
theorem dL_law_635 : decode cL_law 635 = .ok (.iaload, 1) := by decide +kernel
theorem dL_law_636 : decode cL_law 636 = .ok (.invokevirtual 67, 3) := by decide +kernel
theorem dL_law_639 : decode cL_law 639 = .ok (.aload_n 2, 1) := by decide +kernel
theorem dL_law_640 : decode cL_law 640 = .ok (.aload_n 0, 1) := by decide +kernel
theorem dL_law_641 : decode cL_law 641 = .ok (.iload_n 3, 1) := by decide +kernel
theorem dL_law_642 : decode cL_law 642 = .ok (.iconst 1, 1) := by decide +kernel
theorem dL_law_643 : decode cL_law 643 = .ok (.iadd, 1) := by decide +kernel
theorem dL_law_644 : decode cL_law 644 = .ok (.iaload, 1) := by decide +kernel
theorem dL_law_645 : decode cL_law 645 = .ok (.aload_n 0, 1) := by decide +kernel
theorem dL_law_646 : decode cL_law 646 = .ok (.iload_n 3, 1) := by decide +kernel
theorem dL_law_647 : decode cL_law 647 = .ok (.iconst 2, 1) := by decide +kernel
theorem dL_law_648 : decode cL_law 648 = .ok (.iadd, 1) := by decide +kernel
theorem dL_law_649 : decode cL_law 649 = .ok (.iaload, 1) := by decide +kernel
theorem dL_law_650 : decode cL_law 650 = .ok (.aload_n 0, 1) := by decide +kernel
theorem dL_law_651 : decode cL_law 651 = .ok (.iload_n 3, 1) := by decide +kernel
theorem dL_law_652 : decode cL_law 652 = .ok (.iconst 3, 1) := by decide +kernel
theorem dL_law_653 : decode cL_law 653 = .ok (.iadd, 1) := by decide +kernel
theorem dL_law_654 : decode cL_law 654 = .ok (.iaload, 1) := by decide +kernel
theorem dL_law_655 : decode cL_law 655 = .ok (.invokevirtual 70, 3) := by decide +kernel
theorem dL_law_658 : decode cL_law 658 = .ok (.if_icmp .eq 298, 3) := by decide +kernel
theorem dL_law_661 : decode cL_law 661 = .ok (.iconst 0, 1) := by decide +kernel
theorem dL_law_662 : decode cL_law 662 = .ok (.ireturn, 1) := by decide +kernel
theorem dL_law_663 : decode cL_law 663 = .ok (.aload_n 1, 1) := by decide +kernel
theorem dL_law_664 : decode cL_law 664 = .ok (.aload_n 0, 1) := by decide +kernel
theorem dL_law_665 : decode cL_law 665 = .ok (.iload_n 3, 1) := by decide +kernel
theorem dL_law_666 : decode cL_law 666 = .ok (.iconst 1, 1) := by decide +kernel
theorem dL_law_667 : decode cL_law 667 = .ok (.iadd, 1) := by decide +kernel
theorem dL_law_668 : decode cL_law 668 = .ok (.iaload, 1) := by decide +kernel
theorem dL_law_669 : decode cL_law 669 = .ok (.invokevirtual 71, 3) := by decide +kernel
theorem dL_law_672 : decode cL_law 672 = .ok (.aload_n 2, 1) := by decide +kernel
theorem dL_law_673 : decode cL_law 673 = .ok (.aload_n 0, 1) := by decide +kernel
theorem dL_law_674 : decode cL_law 674 = .ok (.iload_n 3, 1) := by decide +kernel
theorem dL_law_675 : decode cL_law 675 = .ok (.iconst 1, 1) := by decide +kernel
theorem dL_law_676 : decode cL_law 676 = .ok (.iadd, 1) := by decide +kernel
theorem dL_law_677 : decode cL_law 677 = .ok (.iaload, 1) := by decide +kernel
theorem dL_law_678 : decode cL_law 678 = .ok (.invokevirtual 74, 3) := by decide +kernel
theorem dL_law_681 : decode cL_law 681 = .ok (.if_icmp .eq 275, 3) := by decide +kernel
theorem dL_law_684 : decode cL_law 684 = .ok (.iconst 0, 1) := by decide +kernel
theorem dL_law_685 : decode cL_law 685 = .ok (.ireturn, 1) := by decide +kernel
theorem dL_law_686 : decode cL_law 686 = .ok (.aload_n 1, 1) := by decide +kernel
theorem dL_law_687 : decode cL_law 687 = .ok (.aload_n 0, 1) := by decide +kernel
theorem dL_law_688 : decode cL_law 688 = .ok (.iload_n 3, 1) := by decide +kernel
theorem dL_law_689 : decode cL_law 689 = .ok (.iconst 1, 1) := by decide +kernel
theorem dL_law_690 : decode cL_law 690 = .ok (.iadd, 1) := by decide +kernel
theorem dL_law_691 : decode cL_law 691 = .ok (.iaload, 1) := by decide +kernel
theorem dL_law_692 : decode cL_law 692 = .ok (.aload_n 0, 1) := by decide +kernel
theorem dL_law_693 : decode cL_law 693 = .ok (.iload_n 3, 1) := by decide +kernel
theorem dL_law_694 : decode cL_law 694 = .ok (.iconst 2, 1) := by decide +kernel
theorem dL_law_695 : decode cL_law 695 = .ok (.iadd, 1) := by decide +kernel
theorem dL_law_696 : decode cL_law 696 = .ok (.iaload, 1) := by decide +kernel
theorem dL_law_697 : decode cL_law 697 = .ok (.aload_n 0, 1) := by decide +kernel
theorem dL_law_698 : decode cL_law 698 = .ok (.iload_n 3, 1) := by decide +kernel
theorem dL_law_699 : decode cL_law 699 = .ok (.iconst 3, 1) := by decide +kernel
theorem dL_law_700 : decode cL_law 700 = .ok (.iadd, 1) := by decide +kernel
theorem dL_law_701 : decode cL_law 701 = .ok (.iaload, 1) := by decide +kernel
theorem dL_law_702 : decode cL_law 702 = .ok (.aload_n 0, 1) := by decide +kernel
theorem dL_law_703 : decode cL_law 703 = .ok (.iload_n 3, 1) := by decide +kernel
theorem dL_law_704 : decode cL_law 704 = .ok (.iconst 4, 1) := by decide +kernel
theorem dL_law_705 : decode cL_law 705 = .ok (.iadd, 1) := by decide +kernel
theorem dL_law_706 : decode cL_law 706 = .ok (.iaload, 1) := by decide +kernel
theorem dL_law_707 : decode cL_law 707 = .ok (.aload_n 0, 1) := by decide +kernel
theorem dL_law_708 : decode cL_law 708 = .ok (.iload_n 3, 1) := by decide +kernel
theorem dL_law_709 : decode cL_law 709 = .ok (.iconst 5, 1) := by decide +kernel
theorem dL_law_710 : decode cL_law 710 = .ok (.iadd, 1) := by decide +kernel
theorem dL_law_711 : decode cL_law 711 = .ok (.iaload, 1) := by decide +kernel
theorem dL_law_712 : decode cL_law 712 = .ok (.invokevirtual 75, 3) := by decide +kernel
theorem dL_law_715 : decode cL_law 715 = .ok (.aload_n 2, 1) := by decide +kernel
theorem dL_law_716 : decode cL_law 716 = .ok (.aload_n 0, 1) := by decide +kernel
theorem dL_law_717 : decode cL_law 717 = .ok (.iload_n 3, 1) := by decide +kernel
theorem dL_law_718 : decode cL_law 718 = .ok (.iconst 1, 1) := by decide +kernel
theorem dL_law_719 : decode cL_law 719 = .ok (.iadd, 1) := by decide +kernel
theorem dL_law_720 : decode cL_law 720 = .ok (.iaload, 1) := by decide +kernel
theorem dL_law_721 : decode cL_law 721 = .ok (.aload_n 0, 1) := by decide +kernel
theorem dL_law_722 : decode cL_law 722 = .ok (.iload_n 3, 1) := by decide +kernel
theorem dL_law_723 : decode cL_law 723 = .ok (.iconst 2, 1) := by decide +kernel
theorem dL_law_724 : decode cL_law 724 = .ok (.iadd, 1) := by decide +kernel
theorem dL_law_725 : decode cL_law 725 = .ok (.iaload, 1) := by decide +kernel
theorem dL_law_726 : decode cL_law 726 = .ok (.aload_n 0, 1) := by decide +kernel
theorem dL_law_727 : decode cL_law 727 = .ok (.iload_n 3, 1) := by decide +kernel
theorem dL_law_728 : decode cL_law 728 = .ok (.iconst 3, 1) := by decide +kernel
theorem dL_law_729 : decode cL_law 729 = .ok (.iadd, 1) := by decide +kernel
theorem dL_law_730 : decode cL_law 730 = .ok (.iaload, 1) := by decide +kernel
theorem dL_law_731 : decode cL_law 731 = .ok (.aload_n 0, 1) := by decide +kernel
theorem dL_law_732 : decode cL_law 732 = .ok (.iload_n 3, 1) := by decide +kernel
theorem dL_law_733 : decode cL_law 733 = .ok (.iconst 4, 1) := by decide +kernel
theorem dL_law_734 : decode cL_law 734 = .ok (.iadd, 1) := by decide +kernel
theorem dL_law_735 : decode cL_law 735 = .ok (.iaload, 1) := by decide +kernel
theorem dL_law_736 : decode cL_law 736 = .ok (.aload_n 0, 1) := by decide +kernel
theorem dL_law_737 : decode cL_law 737 = .ok (.iload_n 3, 1) := by decide +kernel
theorem dL_law_738 : decode cL_law 738 = .ok (.iconst 5, 1) := by decide +kernel
theorem dL_law_739 : decode cL_law 739 = .ok (.iadd, 1) := by decide +kernel
theorem dL_law_740 : decode cL_law 740 = .ok (.iaload, 1) := by decide +kernel
theorem dL_law_741 : decode cL_law 741 = .ok (.invokevirtual 78, 3) := by decide +kernel
theorem dL_law_744 : decode cL_law 744 = .ok (.if_icmp .eq 212, 3) := by decide +kernel
theorem dL_law_747 : decode cL_law 747 = .ok (.iconst 0, 1) := by decide +kernel
theorem dL_law_748 : decode cL_law 748 = .ok (.ireturn, 1) := by decide +kernel
theorem dL_law_749 : decode cL_law 749 = .ok (.aload_n 1, 1) := by decide +kernel
theorem dL_law_750 : decode cL_law 750 = .ok (.aload_n 0, 1) := by decide +kernel
theorem dL_law_751 : decode cL_law 751 = .ok (.iload_n 3, 1) := by decide +kernel
theorem dL_law_752 : decode cL_law 752 = .ok (.iconst 1, 1) := by decide +kernel
theorem dL_law_753 : decode cL_law 753 = .ok (.iadd, 1) := by decide +kernel
theorem dL_law_754 : decode cL_law 754 = .ok (.iaload, 1) := by decide +kernel
theorem dL_law_755 : decode cL_law 755 = .ok (.aload_n 0, 1) := by decide +kernel
theorem dL_law_756 : decode cL_law 756 = .ok (.iload_n 3, 1) := by decide +kernel
theorem dL_law_757 : decode cL_law 757 = .ok (.iconst 2, 1) := by decide +kernel
theorem dL_law_758 : decode cL_law 758 = .ok (.iadd, 1) := by decide +kernel
theorem dL_law_759 : decode cL_law 759 = .ok (.iaload, 1) := by decide +kernel
theorem dL_law_760 : decode cL_law 760 = .ok (.invokevirtual 79, 3) := by decide +kernel
theorem dL_law_763 : decode cL_law 763 = .ok (.aload_n 2, 1) := by decide +kernel
theorem dL_law_764 : decode cL_law 764 = .ok (.aload_n 0, 1) := by decide +kernel
theorem dL_law_765 : decode cL_law 765 = .ok (.iload_n 3, 1) := by decide +kernel
theorem dL_law_766 : decode cL_law 766 = .ok (.iconst 1, 1) := by decide +kernel
theorem dL_law_767 : decode cL_law 767 = .ok (.iadd, 1) := by decide +kernel
theorem dL_law_768 : decode cL_law 768 = .ok (.iaload, 1) := by decide +kernel
theorem dL_law_769 : decode cL_law 769 = .ok (.aload_n 0, 1) := by decide +kernel
theorem dL_law_770 : decode cL_law 770 = .ok (.iload_n 3, 1) := by decide +kernel
theorem dL_law_771 : decode cL_law 771 = .ok (.iconst 2, 1) := by decide +kernel
theorem dL_law_772 : decode cL_law 772 = .ok (.iadd, 1) := by decide +kernel
theorem dL_law_773 : decode cL_law 773 = .ok (.iaload, 1) := by decide +kernel
theorem dL_law_774 : decode cL_law 774 = .ok (.invokevirtual 82, 3) := by decide +kernel
theorem dL_law_777 : decode cL_law 777 = .ok (.if_icmp .eq 179, 3) := by decide +kernel
theorem dL_law_780 : decode cL_law 780 = .ok (.iconst 0, 1) := by decide +kernel
theorem dL_law_781 : decode cL_law 781 = .ok (.ireturn, 1) := by decide +kernel
theorem dL_law_782 : decode cL_law 782 = .ok (.aload_n 1, 1) := by decide +kernel
theorem dL_law_783 : decode cL_law 783 = .ok (.aload_n 0, 1) := by decide +kernel
theorem dL_law_784 : decode cL_law 784 = .ok (.iload_n 3, 1) := by decide +kernel
theorem dL_law_785 : decode cL_law 785 = .ok (.iconst 1, 1) := by decide +kernel
theorem dL_law_786 : decode cL_law 786 = .ok (.iadd, 1) := by decide +kernel
theorem dL_law_787 : decode cL_law 787 = .ok (.iaload, 1) := by decide +kernel
theorem dL_law_788 : decode cL_law 788 = .ok (.invokevirtual 83, 3) := by decide +kernel
theorem dL_law_791 : decode cL_law 791 = .ok (.aload_n 2, 1) := by decide +kernel
theorem dL_law_792 : decode cL_law 792 = .ok (.aload_n 0, 1) := by decide +kernel
theorem dL_law_793 : decode cL_law 793 = .ok (.iload_n 3, 1) := by decide +kernel
theorem dL_law_794 : decode cL_law 794 = .ok (.iconst 1, 1) := by decide +kernel
theorem dL_law_795 : decode cL_law 795 = .ok (.iadd, 1) := by decide +kernel
theorem dL_law_796 : decode cL_law 796 = .ok (.iaload, 1) := by decide +kernel
theorem dL_law_797 : decode cL_law 797 = .ok (.invokevirtual 86, 3) := by decide +kernel
theorem dL_law_800 : decode cL_law 800 = .ok (.if_icmp .eq 156, 3) := by decide +kernel
theorem dL_law_803 : decode cL_law 803 = .ok (.iconst 0, 1) := by decide +kernel
theorem dL_law_804 : decode cL_law 804 = .ok (.ireturn, 1) := by decide +kernel
theorem dL_law_805 : decode cL_law 805 = .ok (.aload_n 1, 1) := by decide +kernel
theorem dL_law_806 : decode cL_law 806 = .ok (.aload_n 0, 1) := by decide +kernel
theorem dL_law_807 : decode cL_law 807 = .ok (.iload_n 3, 1) := by decide +kernel
theorem dL_law_808 : decode cL_law 808 = .ok (.iconst 1, 1) := by decide +kernel
theorem dL_law_809 : decode cL_law 809 = .ok (.iadd, 1) := by decide +kernel
theorem dL_law_810 : decode cL_law 810 = .ok (.iaload, 1) := by decide +kernel
theorem dL_law_811 : decode cL_law 811 = .ok (.i2l, 1) := by decide +kernel
theorem dL_law_812 : decode cL_law 812 = .ok (.bipush 32, 2) := by decide +kernel
theorem dL_law_814 : decode cL_law 814 = .ok (.lshl, 1) := by decide +kernel
theorem dL_law_815 : decode cL_law 815 = .ok (.aload_n 0, 1) := by decide +kernel
theorem dL_law_816 : decode cL_law 816 = .ok (.iload_n 3, 1) := by decide +kernel
theorem dL_law_817 : decode cL_law 817 = .ok (.iconst 2, 1) := by decide +kernel
theorem dL_law_818 : decode cL_law 818 = .ok (.iadd, 1) := by decide +kernel
theorem dL_law_819 : decode cL_law 819 = .ok (.iaload, 1) := by decide +kernel
theorem dL_law_820 : decode cL_law 820 = .ok (.i2l, 1) := by decide +kernel
theorem dL_law_821 : decode cL_law 821 = .ok (.ldc2_w 87, 3) := by decide +kernel
theorem dL_law_824 : decode cL_law 824 = .ok (.land, 1) := by decide +kernel
theorem dL_law_825 : decode cL_law 825 = .ok (.lor, 1) := by decide +kernel
theorem dL_law_826 : decode cL_law 826 = .ok (.invokevirtual 89, 3) := by decide +kernel
theorem dL_law_829 : decode cL_law 829 = .ok (.aload_n 2, 1) := by decide +kernel
theorem dL_law_830 : decode cL_law 830 = .ok (.aload_n 0, 1) := by decide +kernel
theorem dL_law_831 : decode cL_law 831 = .ok (.iload_n 3, 1) := by decide +kernel
theorem dL_law_832 : decode cL_law 832 = .ok (.iconst 1, 1) := by decide +kernel
theorem dL_law_833 : decode cL_law 833 = .ok (.iadd, 1) := by decide +kernel
theorem dL_law_834 : decode cL_law 834 = .ok (.iaload, 1) := by decide +kernel
theorem dL_law_835 : decode cL_law 835 = .ok (.i2l, 1) := by decide +kernel
theorem dL_law_836 : decode cL_law 836 = .ok (.bipush 32, 2) := by decide +kernel
theorem dL_law_838 : decode cL_law 838 = .ok (.lshl, 1) := by decide +kernel
theorem dL_law_839 : decode cL_law 839 = .ok (.aload_n 0, 1) := by decide +kernel
theorem dL_law_840 : decode cL_law 840 = .ok (.iload_n 3, 1) := by decide +kernel
theorem dL_law_841 : decode cL_law 841 = .ok (.iconst 2, 1) := by decide +kernel
theorem dL_law_842 : decode cL_law 842 = .ok (.iadd, 1) := by decide +kernel
theorem dL_law_843 : decode cL_law 843 = .ok (.iaload, 1) := by decide +kernel
theorem dL_law_844 : decode cL_law 844 = .ok (.i2l, 1) := by decide +kernel
theorem dL_law_845 : decode cL_law 845 = .ok (.ldc2_w 87, 3) := by decide +kernel
theorem dL_law_848 : decode cL_law 848 = .ok (.land, 1) := by decide +kernel
theorem dL_law_849 : decode cL_law 849 = .ok (.lor, 1) := by decide +kernel
theorem dL_law_850 : decode cL_law 850 = .ok (.invokevirtual 93, 3) := by decide +kernel
theorem dL_law_853 : decode cL_law 853 = .ok (.if_icmp .eq 103, 3) := by decide +kernel
theorem dL_law_856 : decode cL_law 856 = .ok (.iconst 0, 1) := by decide +kernel
theorem dL_law_857 : decode cL_law 857 = .ok (.ireturn, 1) := by decide +kernel
theorem dL_law_858 : decode cL_law 858 = .ok (.aload_n 1, 1) := by decide +kernel
theorem dL_law_859 : decode cL_law 859 = .ok (.invokevirtual 94, 3) := by decide +kernel
theorem dL_law_862 : decode cL_law 862 = .ok (.aload_n 2, 1) := by decide +kernel
theorem dL_law_863 : decode cL_law 863 = .ok (.invokevirtual 97, 3) := by decide +kernel
theorem dL_law_866 : decode cL_law 866 = .ok (.if_icmp .eq 90, 3) := by decide +kernel
theorem dL_law_869 : decode cL_law 869 = .ok (.iconst 0, 1) := by decide +kernel
theorem dL_law_870 : decode cL_law 870 = .ok (.ireturn, 1) := by decide +kernel
theorem dL_law_871 : decode cL_law 871 = .ok (.aload_n 1, 1) := by decide +kernel
theorem dL_law_872 : decode cL_law 872 = .ok (.invokevirtual 98, 3) := by decide +kernel
theorem dL_law_875 : decode cL_law 875 = .ok (.aload_n 2, 1) := by decide +kernel
theorem dL_law_876 : decode cL_law 876 = .ok (.invokevirtual 101, 3) := by decide +kernel
theorem dL_law_879 : decode cL_law 879 = .ok (.if_icmp .eq 77, 3) := by decide +kernel
theorem dL_law_882 : decode cL_law 882 = .ok (.iconst 0, 1) := by decide +kernel
theorem dL_law_883 : decode cL_law 883 = .ok (.ireturn, 1) := by decide +kernel
theorem dL_law_884 : decode cL_law 884 = .ok (.aload_n 1, 1) := by decide +kernel
theorem dL_law_885 : decode cL_law 885 = .ok (.invokevirtual 102, 3) := by decide +kernel
theorem dL_law_888 : decode cL_law 888 = .ok (.aload_n 2, 1) := by decide +kernel
theorem dL_law_889 : decode cL_law 889 = .ok (.invokevirtual 105, 3) := by decide +kernel
theorem dL_law_892 : decode cL_law 892 = .ok (.if_icmp .eq 64, 3) := by decide +kernel
theorem dL_law_895 : decode cL_law 895 = .ok (.iconst 0, 1) := by decide +kernel
theorem dL_law_896 : decode cL_law 896 = .ok (.ireturn, 1) := by decide +kernel
theorem dL_law_897 : decode cL_law 897 = .ok (.aload_n 1, 1) := by decide +kernel
theorem dL_law_898 : decode cL_law 898 = .ok (.invokevirtual 106, 3) := by decide +kernel
theorem dL_law_901 : decode cL_law 901 = .ok (.aload_n 2, 1) := by decide +kernel
theorem dL_law_902 : decode cL_law 902 = .ok (.invokevirtual 109, 3) := by decide +kernel
theorem dL_law_905 : decode cL_law 905 = .ok (.if_icmp .eq 51, 3) := by decide +kernel
theorem dL_law_908 : decode cL_law 908 = .ok (.iconst 0, 1) := by decide +kernel
theorem dL_law_909 : decode cL_law 909 = .ok (.ireturn, 1) := by decide +kernel
theorem dL_law_910 : decode cL_law 910 = .ok (.aload_n 1, 1) := by decide +kernel
theorem dL_law_911 : decode cL_law 911 = .ok (.aload_n 0, 1) := by decide +kernel
theorem dL_law_912 : decode cL_law 912 = .ok (.iload_n 3, 1) := by decide +kernel
theorem dL_law_913 : decode cL_law 913 = .ok (.iconst 1, 1) := by decide +kernel
theorem dL_law_914 : decode cL_law 914 = .ok (.iadd, 1) := by decide +kernel
theorem dL_law_915 : decode cL_law 915 = .ok (.iaload, 1) := by decide +kernel
theorem dL_law_916 : decode cL_law 916 = .ok (.invokevirtual 110, 3) := by decide +kernel
theorem dL_law_919 : decode cL_law 919 = .ok (.aload_n 2, 1) := by decide +kernel
theorem dL_law_920 : decode cL_law 920 = .ok (.aload_n 0, 1) := by decide +kernel
theorem dL_law_921 : decode cL_law 921 = .ok (.iload_n 3, 1) := by decide +kernel
theorem dL_law_922 : decode cL_law 922 = .ok (.iconst 1, 1) := by decide +kernel
theorem dL_law_923 : decode cL_law 923 = .ok (.iadd, 1) := by decide +kernel
theorem dL_law_924 : decode cL_law 924 = .ok (.iaload, 1) := by decide +kernel
theorem dL_law_925 : decode cL_law 925 = .ok (.invokevirtual 113, 3) := by decide +kernel
theorem dL_law_928 : decode cL_law 928 = .ok (.if_icmp .eq 28, 3) := by decide +kernel
theorem dL_law_931 : decode cL_law 931 = .ok (.iconst 0, 1) := by decide +kernel
theorem dL_law_932 : decode cL_law 932 = .ok (.ireturn, 1) := by decide +kernel
theorem dL_law_933 : decode cL_law 933 = .ok (.aload_n 1, 1) := by decide +kernel
theorem dL_law_934 : decode cL_law 934 = .ok (.aload_n 0, 1) := by decide +kernel
theorem dL_law_935 : decode cL_law 935 = .ok (.iload_n 3, 1) := by decide +kernel
theorem dL_law_936 : decode cL_law 936 = .ok (.iconst 1, 1) := by decide +kernel
theorem dL_law_937 : decode cL_law 937 = .ok (.iadd, 1) := by decide +kernel
theorem dL_law_938 : decode cL_law 938 = .ok (.iaload, 1) := by decide +kernel
theorem dL_law_939 : decode cL_law 939 = .ok (.invokevirtual 114, 3) := by decide +kernel
theorem dL_law_942 : decode cL_law 942 = .ok (.aload_n 2, 1) := by decide +kernel
theorem dL_law_943 : decode cL_law 943 = .ok (.aload_n 0, 1) := by decide +kernel
theorem dL_law_944 : decode cL_law 944 = .ok (.iload_n 3, 1) := by decide +kernel
theorem dL_law_945 : decode cL_law 945 = .ok (.iconst 1, 1) := by decide +kernel
theorem dL_law_946 : decode cL_law 946 = .ok (.iadd, 1) := by decide +kernel
theorem dL_law_947 : decode cL_law 947 = .ok (.iaload, 1) := by decide +kernel
theorem dL_law_948 : decode cL_law 948 = .ok (.invokevirtual 117, 3) := by decide +kernel
theorem dL_law_951 : decode cL_law 951 = .ok (.if_icmp .eq 5, 3) := by decide +kernel
theorem dL_law_954 : decode cL_law 954 = .ok (.iconst 0, 1) := by decide +kernel
theorem dL_law_955 : decode cL_law 955 = .ok (.ireturn, 1) := by decide +kernel
theorem dL_law_956 : decode cL_law 956 = .ok (.iinc 3 6, 3) := by decide +kernel
theorem dL_law_959 : decode cL_law 959 = .ok (.goto (-941), 3) := by decide +kernel
theorem dL_law_962 : decode cL_law 962 = .ok (.iconst 1, 1) := by decide +kernel
theorem dL_law_963 : decode cL_law 963 = .ok (.ireturn, 1) := by decide +kernel
theorem dX9_init_0 : decode cX9_init 0 = .ok (.aload_n 0, 1) := by decide +kernel
theorem dX9_init_1 : decode cX9_init 1 = .ok (.invokespecial 1, 3) := by decide +kernel
theorem dX9_init_4 : decode cX9_init 4 = .ok (.aload_n 0, 1) := by decide +kernel
theorem dX9_init_5 : decode cX9_init 5 = .ok (.sipush 489, 3) := by decide +kernel
theorem dX9_init_8 : decode cX9_init 8 = .ok (.newarray .int, 2) := by decide +kernel
theorem dX9_init_10 : decode cX9_init 10 = .ok (.putfield 7, 3) := by decide +kernel
theorem dX9_init_13 : decode cX9_init 13 = .ok (.aload_n 0, 1) := by decide +kernel
theorem dX9_init_14 : decode cX9_init 14 = .ok (.sipush 2934, 3) := by decide +kernel
theorem dX9_init_17 : decode cX9_init 17 = .ok (.newarray .int, 2) := by decide +kernel
theorem dX9_init_19 : decode cX9_init 19 = .ok (.putfield 13, 3) := by decide +kernel
theorem dX9_init_22 : decode cX9_init 22 = .ok (.aload_n 0, 1) := by decide +kernel
theorem dX9_init_23 : decode cX9_init 23 = .ok (.sipush 978, 3) := by decide +kernel
theorem dX9_init_26 : decode cX9_init 26 = .ok (.newarray .int, 2) := by decide +kernel
theorem dX9_init_28 : decode cX9_init 28 = .ok (.putfield 16, 3) := by decide +kernel
theorem dX9_init_31 : decode cX9_init 31 = .ok (.aload_n 0, 1) := by decide +kernel
theorem dX9_init_32 : decode cX9_init 32 = .ok (.iconst 2, 1) := by decide +kernel
theorem dX9_init_33 : decode cX9_init 33 = .ok (.newarray .int, 2) := by decide +kernel
theorem dX9_init_35 : decode cX9_init 35 = .ok (.putfield 19, 3) := by decide +kernel
theorem dX9_init_38 : decode cX9_init 38 = .ok (.aload_n 0, 1) := by decide +kernel
theorem dX9_init_39 : decode cX9_init 39 = .ok (.bipush 80, 2) := by decide +kernel
theorem dX9_init_41 : decode cX9_init 41 = .ok (.newarray .int, 2) := by decide +kernel
theorem dX9_init_43 : decode cX9_init 43 = .ok (.putfield 22, 3) := by decide +kernel
theorem dX9_init_46 : decode cX9_init 46 = .ok (.aload_n 0, 1) := by decide +kernel
theorem dX9_init_47 : decode cX9_init 47 = .ok (.sipush 300, 3) := by decide +kernel
theorem dX9_init_50 : decode cX9_init 50 = .ok (.newarray .int, 2) := by decide +kernel
theorem dX9_init_52 : decode cX9_init 52 = .ok (.putfield 25, 3) := by decide +kernel
theorem dX9_init_55 : decode cX9_init 55 = .ok (.aload_n 0, 1) := by decide +kernel
theorem dX9_init_56 : decode cX9_init 56 = .ok (.sipush 1800, 3) := by decide +kernel
theorem dX9_init_59 : decode cX9_init 59 = .ok (.newarray .int, 2) := by decide +kernel
theorem dX9_init_61 : decode cX9_init 61 = .ok (.putfield 28, 3) := by decide +kernel
theorem dX9_init_64 : decode cX9_init 64 = .ok (.aload_n 0, 1) := by decide +kernel
theorem dX9_init_65 : decode cX9_init 65 = .ok (.bipush 6, 2) := by decide +kernel
theorem dX9_init_67 : decode cX9_init 67 = .ok (.newarray .int, 2) := by decide +kernel
theorem dX9_init_69 : decode cX9_init 69 = .ok (.putfield 31, 3) := by decide +kernel
theorem dX9_init_72 : decode cX9_init 72 = .ok (.aload_n 0, 1) := by decide +kernel
theorem dX9_init_73 : decode cX9_init 73 = .ok (.getfield 7, 3) := by decide +kernel
theorem dX9_init_76 : decode cX9_init 76 = .ok (.iconst 1, 1) := by decide +kernel
theorem dX9_init_77 : decode cX9_init 77 = .ok (.bipush 7, 2) := by decide +kernel
theorem dX9_init_79 : decode cX9_init 79 = .ok (.iastore, 1) := by decide +kernel
theorem dX9_init_80 : decode cX9_init 80 = .ok (.return_, 1) := by decide +kernel
theorem dX9_copy_0 : decode cX9_copy 0 = .ok (.iconst 0, 1) := by decide +kernel
theorem dX9_copy_1 : decode cX9_copy 1 = .ok (.istore 4, 2) := by decide +kernel
theorem dX9_copy_3 : decode cX9_copy 3 = .ok (.iload 4, 2) := by decide +kernel
theorem dX9_copy_5 : decode cX9_copy 5 = .ok (.sipush 489, 3) := by decide +kernel
theorem dX9_copy_8 : decode cX9_copy 8 = .ok (.if_icmp .ge 21, 3) := by decide +kernel
theorem dX9_copy_11 : decode cX9_copy 11 = .ok (.aload_n 2, 1) := by decide +kernel
theorem dX9_copy_12 : decode cX9_copy 12 = .ok (.iload_n 3, 1) := by decide +kernel
theorem dX9_copy_13 : decode cX9_copy 13 = .ok (.iload 4, 2) := by decide +kernel
theorem dX9_copy_15 : decode cX9_copy 15 = .ok (.iadd, 1) := by decide +kernel
theorem dX9_copy_16 : decode cX9_copy 16 = .ok (.aload_n 0, 1) := by decide +kernel
theorem dX9_copy_17 : decode cX9_copy 17 = .ok (.iload_n 1, 1) := by decide +kernel
theorem dX9_copy_18 : decode cX9_copy 18 = .ok (.iload 4, 2) := by decide +kernel
theorem dX9_copy_20 : decode cX9_copy 20 = .ok (.iadd, 1) := by decide +kernel
theorem dX9_copy_21 : decode cX9_copy 21 = .ok (.iaload, 1) := by decide +kernel
theorem dX9_copy_22 : decode cX9_copy 22 = .ok (.iastore, 1) := by decide +kernel
theorem dX9_copy_23 : decode cX9_copy 23 = .ok (.iinc 4 1, 3) := by decide +kernel
theorem dX9_copy_26 : decode cX9_copy 26 = .ok (.goto (-23), 3) := by decide +kernel
theorem dX9_copy_29 : decode cX9_copy 29 = .ok (.return_, 1) := by decide +kernel
theorem dX9_within_0 : decode cX9_within 0 = .ok (.iload_n 0, 1) := by decide +kernel
theorem dX9_within_1 : decode cX9_within 1 = .ok (.iload_n 1, 1) := by decide +kernel
theorem dX9_within_2 : decode cX9_within 2 = .ok (.if_icmp .lt 12, 3) := by decide +kernel
theorem dX9_within_5 : decode cX9_within 5 = .ok (.iload_n 0, 1) := by decide +kernel
theorem dX9_within_6 : decode cX9_within 6 = .ok (.iload_n 2, 1) := by decide +kernel
theorem dX9_within_7 : decode cX9_within 7 = .ok (.if_icmp .gt 7, 3) := by decide +kernel
theorem dX9_within_10 : decode cX9_within 10 = .ok (.iconst 1, 1) := by decide +kernel
theorem dX9_within_11 : decode cX9_within 11 = .ok (.goto 4, 3) := by decide +kernel
theorem dX9_within_14 : decode cX9_within 14 = .ok (.iconst 0, 1) := by decide +kernel
theorem dX9_within_15 : decode cX9_within 15 = .ok (.ireturn, 1) := by decide +kernel
theorem dX9_record_0 : decode cX9_record 0 = .ok (.aload_n 0, 1) := by decide +kernel
theorem dX9_record_1 : decode cX9_record 1 = .ok (.getfield 34, 3) := by decide +kernel
theorem dX9_record_4 : decode cX9_record 4 = .ok (.bipush 6, 2) := by decide +kernel
theorem dX9_record_6 : decode cX9_record 6 = .ok (.if_icmp .ne 44, 3) := by decide +kernel
theorem dX9_record_9 : decode cX9_record 9 = .ok (.iconst 0, 1) := by decide +kernel
theorem dX9_record_10 : decode cX9_record 10 = .ok (.istore_n 1, 1) := by decide +kernel
theorem dX9_record_11 : decode cX9_record 11 = .ok (.iload_n 1, 1) := by decide +kernel
theorem dX9_record_12 : decode cX9_record 12 = .ok (.sipush 2445, 3) := by decide +kernel
theorem dX9_record_15 : decode cX9_record 15 = .ok (.if_icmp .ge 25, 3) := by decide +kernel
theorem dX9_record_18 : decode cX9_record 18 = .ok (.aload_n 0, 1) := by decide +kernel
theorem dX9_record_19 : decode cX9_record 19 = .ok (.getfield 13, 3) := by decide +kernel
theorem dX9_record_22 : decode cX9_record 22 = .ok (.iload_n 1, 1) := by decide +kernel
theorem dX9_record_23 : decode cX9_record 23 = .ok (.aload_n 0, 1) := by decide +kernel
theorem dX9_record_24 : decode cX9_record 24 = .ok (.getfield 13, 3) := by decide +kernel
theorem dX9_record_27 : decode cX9_record 27 = .ok (.iload_n 1, 1) := by decide +kernel
theorem dX9_record_28 : decode cX9_record 28 = .ok (.sipush 489, 3) := by decide +kernel
theorem dX9_record_31 : decode cX9_record 31 = .ok (.iadd, 1) := by decide +kernel
theorem dX9_record_32 : decode cX9_record 32 = .ok (.iaload, 1) := by decide +kernel
theorem dX9_record_33 : decode cX9_record 33 = .ok (.iastore, 1) := by decide +kernel
theorem dX9_record_34 : decode cX9_record 34 = .ok (.iinc 1 1, 3) := by decide +kernel
theorem dX9_record_37 : decode cX9_record 37 = .ok (.goto (-26), 3) := by decide +kernel
theorem dX9_record_40 : decode cX9_record 40 = .ok (.aload_n 0, 1) := by decide +kernel
theorem dX9_record_41 : decode cX9_record 41 = .ok (.dup, 1) := by decide +kernel
theorem dX9_record_42 : decode cX9_record 42 = .ok (.getfield 34, 3) := by decide +kernel
theorem dX9_record_45 : decode cX9_record 45 = .ok (.iconst 1, 1) := by decide +kernel
theorem dX9_record_46 : decode cX9_record 46 = .ok (.isub, 1) := by decide +kernel
theorem dX9_record_47 : decode cX9_record 47 = .ok (.putfield 34, 3) := by decide +kernel
theorem dX9_record_50 : decode cX9_record 50 = .ok (.aload_n 0, 1) := by decide +kernel
theorem dX9_record_51 : decode cX9_record 51 = .ok (.getfield 7, 3) := by decide +kernel
theorem dX9_record_54 : decode cX9_record 54 = .ok (.iconst 0, 1) := by decide +kernel
theorem dX9_record_55 : decode cX9_record 55 = .ok (.aload_n 0, 1) := by decide +kernel
theorem dX9_record_56 : decode cX9_record 56 = .ok (.getfield 13, 3) := by decide +kernel
theorem dX9_record_59 : decode cX9_record 59 = .ok (.aload_n 0, 1) := by decide +kernel
theorem dX9_record_60 : decode cX9_record 60 = .ok (.getfield 34, 3) := by decide +kernel
theorem dX9_record_63 : decode cX9_record 63 = .ok (.sipush 489, 3) := by decide +kernel
theorem dX9_record_66 : decode cX9_record 66 = .ok (.imul, 1) := by decide +kernel
theorem dX9_record_67 : decode cX9_record 67 = .ok (.invokestatic 38, 3) := by decide +kernel
theorem dX9_record_70 : decode cX9_record 70 = .ok (.aload_n 0, 1) := by decide +kernel
theorem dX9_record_71 : decode cX9_record 71 = .ok (.dup, 1) := by decide +kernel
theorem dX9_record_72 : decode cX9_record 72 = .ok (.getfield 34, 3) := by decide +kernel
theorem dX9_record_75 : decode cX9_record 75 = .ok (.iconst 1, 1) := by decide +kernel
theorem dX9_record_76 : decode cX9_record 76 = .ok (.iadd, 1) := by decide +kernel
theorem dX9_record_77 : decode cX9_record 77 = .ok (.putfield 34, 3) := by decide +kernel
theorem dX9_record_80 : decode cX9_record 80 = .ok (.return_, 1) := by decide +kernel
theorem dX9_isRow_0 : decode cX9_isRow 0 = .ok (.iload_n 1, 1) := by decide +kernel
theorem dX9_isRow_1 : decode cX9_isRow 1 = .ok (.iconst 0, 1) := by decide +kernel
theorem dX9_isRow_2 : decode cX9_isRow 2 = .ok (.aload_n 0, 1) := by decide +kernel
theorem dX9_isRow_3 : decode cX9_isRow 3 = .ok (.getfield 7, 3) := by decide +kernel
theorem dX9_isRow_6 : decode cX9_isRow 6 = .ok (.iconst 0, 1) := by decide +kernel
theorem dX9_isRow_7 : decode cX9_isRow 7 = .ok (.iaload, 1) := by decide +kernel
theorem dX9_isRow_8 : decode cX9_isRow 8 = .ok (.iconst 1, 1) := by decide +kernel
theorem dX9_isRow_9 : decode cX9_isRow 9 = .ok (.isub, 1) := by decide +kernel
theorem dX9_isRow_10 : decode cX9_isRow 10 = .ok (.invokestatic 42, 3) := by decide +kernel
theorem dX9_isRow_13 : decode cX9_isRow 13 = .ok (.ireturn, 1) := by decide +kernel
theorem dX9_isHour_0 : decode cX9_isHour 0 = .ok (.iload_n 0, 1) := by decide +kernel
theorem dX9_isHour_1 : decode cX9_isHour 1 = .ok (.iconst 0, 1) := by decide +kernel
theorem dX9_isHour_2 : decode cX9_isHour 2 = .ok (.bipush 9, 2) := by decide +kernel
theorem dX9_isHour_4 : decode cX9_isHour 4 = .ok (.invokestatic 42, 3) := by decide +kernel
theorem dX9_isHour_7 : decode cX9_isHour 7 = .ok (.ireturn, 1) := by decide +kernel
theorem dX9_part_0 : decode cX9_part 0 = .ok (.aload_n 0, 1) := by decide +kernel
theorem dX9_part_1 : decode cX9_part 1 = .ok (.getfield 7, 3) := by decide +kernel
theorem dX9_part_4 : decode cX9_part 4 = .ok (.bipush 15, 2) := by decide +kernel
theorem dX9_part_6 : decode cX9_part 6 = .ok (.iconst 4, 1) := by decide +kernel
theorem dX9_part_7 : decode cX9_part 7 = .ok (.iload_n 1, 1) := by decide +kernel
theorem dX9_part_8 : decode cX9_part 8 = .ok (.imul, 1) := by decide +kernel
theorem dX9_part_9 : decode cX9_part 9 = .ok (.iadd, 1) := by decide +kernel
theorem dX9_part_10 : decode cX9_part 10 = .ok (.iload_n 2, 1) := by decide +kernel
theorem dX9_part_11 : decode cX9_part 11 = .ok (.iadd, 1) := by decide +kernel
theorem dX9_part_12 : decode cX9_part 12 = .ok (.iaload, 1) := by decide +kernel
theorem dX9_part_13 : decode cX9_part 13 = .ok (.ireturn, 1) := by decide +kernel
theorem dX9_rightOf_0 : decode cX9_rightOf 0 = .ok (.aload_n 0, 1) := by decide +kernel
theorem dX9_rightOf_1 : decode cX9_rightOf 1 = .ok (.getfield 7, 3) := by decide +kernel
theorem dX9_rightOf_4 : decode cX9_rightOf 4 = .ok (.bipush 39, 2) := by decide +kernel
theorem dX9_rightOf_6 : decode cX9_rightOf 6 = .ok (.bipush 10, 2) := by decide +kernel
theorem dX9_rightOf_8 : decode cX9_rightOf 8 = .ok (.bipush 6, 2) := by decide +kernel
theorem dX9_rightOf_10 : decode cX9_rightOf 10 = .ok (.iload_n 1, 1) := by decide +kernel
theorem dX9_rightOf_11 : decode cX9_rightOf 11 = .ok (.imul, 1) := by decide +kernel
theorem dX9_rightOf_12 : decode cX9_rightOf 12 = .ok (.iload_n 2, 1) := by decide +kernel
theorem dX9_rightOf_13 : decode cX9_rightOf 13 = .ok (.iadd, 1) := by decide +kernel
theorem dX9_rightOf_14 : decode cX9_rightOf 14 = .ok (.imul, 1) := by decide +kernel
theorem dX9_rightOf_15 : decode cX9_rightOf 15 = .ok (.iadd, 1) := by decide +kernel
theorem dX9_rightOf_16 : decode cX9_rightOf 16 = .ok (.iload_n 3, 1) := by decide +kernel
theorem dX9_rightOf_17 : decode cX9_rightOf 17 = .ok (.iadd, 1) := by decide +kernel
theorem dX9_rightOf_18 : decode cX9_rightOf 18 = .ok (.iaload, 1) := by decide +kernel
theorem dX9_rightOf_19 : decode cX9_rightOf 19 = .ok (.ireturn, 1) := by decide +kernel
theorem dX9_setRight_0 : decode cX9_setRight 0 = .ok (.aload_n 0, 1) := by decide +kernel
theorem dX9_setRight_1 : decode cX9_setRight 1 = .ok (.getfield 7, 3) := by decide +kernel
theorem dX9_setRight_4 : decode cX9_setRight 4 = .ok (.bipush 39, 2) := by decide +kernel
theorem dX9_setRight_6 : decode cX9_setRight 6 = .ok (.bipush 10, 2) := by decide +kernel
theorem dX9_setRight_8 : decode cX9_setRight 8 = .ok (.bipush 6, 2) := by decide +kernel
theorem dX9_setRight_10 : decode cX9_setRight 10 = .ok (.iload_n 1, 1) := by decide +kernel
theorem dX9_setRight_11 : decode cX9_setRight 11 = .ok (.imul, 1) := by decide +kernel
theorem dX9_setRight_12 : decode cX9_setRight 12 = .ok (.iload_n 2, 1) := by decide +kernel
theorem dX9_setRight_13 : decode cX9_setRight 13 = .ok (.iadd, 1) := by decide +kernel
theorem dX9_setRight_14 : decode cX9_setRight 14 = .ok (.imul, 1) := by decide +kernel
theorem dX9_setRight_15 : decode cX9_setRight 15 = .ok (.iadd, 1) := by decide +kernel
theorem dX9_setRight_16 : decode cX9_setRight 16 = .ok (.iload_n 3, 1) := by decide +kernel
theorem dX9_setRight_17 : decode cX9_setRight 17 = .ok (.iadd, 1) := by decide +kernel
theorem dX9_setRight_18 : decode cX9_setRight 18 = .ok (.iload 4, 2) := by decide +kernel
theorem dX9_setRight_20 : decode cX9_setRight 20 = .ok (.iastore, 1) := by decide +kernel
theorem dX9_setRight_21 : decode cX9_setRight 21 = .ok (.return_, 1) := by decide +kernel
theorem dX9_slopeOf_0 : decode cX9_slopeOf 0 = .ok (.iload_n 0, 1) := by decide +kernel
theorem dX9_slopeOf_1 : decode cX9_slopeOf 1 = .ok (.iconst 5, 1) := by decide +kernel
theorem dX9_slopeOf_2 : decode cX9_slopeOf 2 = .ok (.if_icmp .ge 7, 3) := by decide +kernel
theorem dX9_slopeOf_5 : decode cX9_slopeOf 5 = .ok (.iload_n 0, 1) := by decide +kernel
theorem dX9_slopeOf_6 : decode cX9_slopeOf 6 = .ok (.goto 7, 3) := by decide +kernel
theorem dX9_slopeOf_9 : decode cX9_slopeOf 9 = .ok (.bipush 9, 2) := by decide +kernel
theorem dX9_slopeOf_11 : decode cX9_slopeOf 11 = .ok (.iload_n 0, 1) := by decide +kernel
theorem dX9_slopeOf_12 : decode cX9_slopeOf 12 = .ok (.isub, 1) := by decide +kernel
theorem dX9_slopeOf_13 : decode cX9_slopeOf 13 = .ok (.istore_n 1, 1) := by decide +kernel
theorem dX9_slopeOf_14 : decode cX9_slopeOf 14 = .ok (.iload_n 1, 1) := by decide +kernel
theorem dX9_slopeOf_15 : decode cX9_slopeOf 15 = .ok (.ifCond .ne 8, 3) := by decide +kernel
theorem dX9_slopeOf_18 : decode cX9_slopeOf 18 = .ok (.bipush 6, 2) := by decide +kernel
theorem dX9_slopeOf_20 : decode cX9_slopeOf 20 = .ok (.goto 6, 3) := by decide +kernel
theorem dX9_slopeOf_23 : decode cX9_slopeOf 23 = .ok (.iconst 5, 1) := by decide +kernel
theorem dX9_slopeOf_24 : decode cX9_slopeOf 24 = .ok (.iload_n 1, 1) := by decide +kernel
theorem dX9_slopeOf_25 : decode cX9_slopeOf 25 = .ok (.isub, 1) := by decide +kernel
theorem dX9_slopeOf_26 : decode cX9_slopeOf 26 = .ok (.ireturn, 1) := by decide +kernel
theorem dX9_sunOf_0 : decode cX9_sunOf 0 = .ok (.iload_n 0, 1) := by decide +kernel
theorem dX9_sunOf_1 : decode cX9_sunOf 1 = .ok (.iconst 5, 1) := by decide +kernel
theorem dX9_sunOf_2 : decode cX9_sunOf 2 = .ok (.if_icmp .ge 9, 3) := by decide +kernel
theorem dX9_sunOf_5 : decode cX9_sunOf 5 = .ok (.iload_n 0, 1) := by decide +kernel
theorem dX9_sunOf_6 : decode cX9_sunOf 6 = .ok (.iconst 1, 1) := by decide +kernel
theorem dX9_sunOf_7 : decode cX9_sunOf 7 = .ok (.iadd, 1) := by decide +kernel
theorem dX9_sunOf_8 : decode cX9_sunOf 8 = .ok (.goto 7, 3) := by decide +kernel
theorem dX9_sunOf_11 : decode cX9_sunOf 11 = .ok (.bipush 10, 2) := by decide +kernel
theorem dX9_sunOf_13 : decode cX9_sunOf 13 = .ok (.iload_n 0, 1) := by decide +kernel
theorem dX9_sunOf_14 : decode cX9_sunOf 14 = .ok (.isub, 1) := by decide +kernel
theorem dX9_sunOf_15 : decode cX9_sunOf 15 = .ok (.ireturn, 1) := by decide +kernel
theorem dX9_shadow_0 : decode cX9_shadow 0 = .ok (.iload 4, 2) := by decide +kernel
theorem dX9_shadow_2 : decode cX9_shadow 2 = .ok (.iconst 5, 1) := by decide +kernel
theorem dX9_shadow_3 : decode cX9_shadow 3 = .ok (.if_icmp .ge 19, 3) := by decide +kernel
theorem dX9_shadow_6 : decode cX9_shadow 6 = .ok (.aload_n 0, 1) := by decide +kernel
theorem dX9_shadow_7 : decode cX9_shadow 7 = .ok (.iload_n 3, 1) := by decide +kernel
theorem dX9_shadow_8 : decode cX9_shadow 8 = .ok (.iconst 0, 1) := by decide +kernel
theorem dX9_shadow_9 : decode cX9_shadow 9 = .ok (.invokevirtual 46, 3) := by decide +kernel
theorem dX9_shadow_12 : decode cX9_shadow 12 = .ok (.aload_n 0, 1) := by decide +kernel
theorem dX9_shadow_13 : decode cX9_shadow 13 = .ok (.iload_n 1, 1) := by decide +kernel
theorem dX9_shadow_14 : decode cX9_shadow 14 = .ok (.iconst 0, 1) := by decide +kernel
theorem dX9_shadow_15 : decode cX9_shadow 15 = .ok (.invokevirtual 46, 3) := by decide +kernel
theorem dX9_shadow_18 : decode cX9_shadow 18 = .ok (.isub, 1) := by decide +kernel
theorem dX9_shadow_19 : decode cX9_shadow 19 = .ok (.goto 16, 3) := by decide +kernel
theorem dX9_shadow_22 : decode cX9_shadow 22 = .ok (.aload_n 0, 1) := by decide +kernel
theorem dX9_shadow_23 : decode cX9_shadow 23 = .ok (.iload_n 1, 1) := by decide +kernel
theorem dX9_shadow_24 : decode cX9_shadow 24 = .ok (.iconst 0, 1) := by decide +kernel
theorem dX9_shadow_25 : decode cX9_shadow 25 = .ok (.invokevirtual 46, 3) := by decide +kernel
theorem dX9_shadow_28 : decode cX9_shadow 28 = .ok (.aload_n 0, 1) := by decide +kernel
theorem dX9_shadow_29 : decode cX9_shadow 29 = .ok (.iload_n 3, 1) := by decide +kernel
theorem dX9_shadow_30 : decode cX9_shadow 30 = .ok (.iconst 0, 1) := by decide +kernel
theorem dX9_shadow_31 : decode cX9_shadow 31 = .ok (.invokevirtual 46, 3) := by decide +kernel
theorem dX9_shadow_34 : decode cX9_shadow 34 = .ok (.isub, 1) := by decide +kernel
theorem dX9_shadow_35 : decode cX9_shadow 35 = .ok (.istore 5, 2) := by decide +kernel
theorem dX9_shadow_37 : decode cX9_shadow 37 = .ok (.iload 5, 2) := by decide +kernel
theorem dX9_shadow_39 : decode cX9_shadow 39 = .ok (.ifCond .gt 5, 3) := by decide +kernel
theorem dX9_shadow_42 : decode cX9_shadow 42 = .ok (.iconst 0, 1) := by decide +kernel
theorem dX9_shadow_43 : decode cX9_shadow 43 = .ok (.ireturn, 1) := by decide +kernel
theorem dX9_shadow_44 : decode cX9_shadow 44 = .ok (.iload 4, 2) := by decide +kernel
theorem dX9_shadow_46 : decode cX9_shadow 46 = .ok (.invokestatic 50, 3) := by decide +kernel
theorem dX9_shadow_49 : decode cX9_shadow 49 = .ok (.istore 6, 2) := by decide +kernel
theorem dX9_shadow_51 : decode cX9_shadow 51 = .ok (.aload_n 0, 1) := by decide +kernel
theorem dX9_shadow_52 : decode cX9_shadow 52 = .ok (.iload_n 1, 1) := by decide +kernel
theorem dX9_shadow_53 : decode cX9_shadow 53 = .ok (.iconst 1, 1) := by decide +kernel
theorem dX9_shadow_54 : decode cX9_shadow 54 = .ok (.invokevirtual 46, 3) := by decide +kernel
theorem dX9_shadow_57 : decode cX9_shadow 57 = .ok (.iload_n 2, 1) := by decide +kernel
theorem dX9_shadow_58 : decode cX9_shadow 58 = .ok (.imul, 1) := by decide +kernel
theorem dX9_shadow_59 : decode cX9_shadow 59 = .ok (.iconst 2, 1) := by decide +kernel
theorem dX9_shadow_60 : decode cX9_shadow 60 = .ok (.iload 5, 2) := by decide +kernel
theorem dX9_shadow_62 : decode cX9_shadow 62 = .ok (.imul, 1) := by decide +kernel
theorem dX9_shadow_63 : decode cX9_shadow 63 = .ok (.iload 6, 2) := by decide +kernel
theorem dX9_shadow_65 : decode cX9_shadow 65 = .ok (.iadd, 1) := by decide +kernel
theorem dX9_shadow_66 : decode cX9_shadow 66 = .ok (.iconst 1, 1) := by decide +kernel
theorem dX9_shadow_67 : decode cX9_shadow 67 = .ok (.isub, 1) := by decide +kernel
theorem dX9_shadow_68 : decode cX9_shadow 68 = .ok (.iload 6, 2) := by decide +kernel
theorem dX9_shadow_70 : decode cX9_shadow 70 = .ok (.idiv, 1) := by decide +kernel
theorem dX9_shadow_71 : decode cX9_shadow 71 = .ok (.isub, 1) := by decide +kernel
theorem dX9_shadow_72 : decode cX9_shadow 72 = .ok (.istore 7, 2) := by decide +kernel
theorem dX9_shadow_74 : decode cX9_shadow 74 = .ok (.iload 7, 2) := by decide +kernel
theorem dX9_shadow_76 : decode cX9_shadow 76 = .ok (.ifCond .le 8, 3) := by decide +kernel
theorem dX9_shadow_79 : decode cX9_shadow 79 = .ok (.iload 7, 2) := by decide +kernel
theorem dX9_shadow_81 : decode cX9_shadow 81 = .ok (.goto 4, 3) := by decide +kernel
theorem dX9_shadow_84 : decode cX9_shadow 84 = .ok (.iconst 0, 1) := by decide +kernel
theorem dX9_shadow_85 : decode cX9_shadow 85 = .ok (.ireturn, 1) := by decide +kernel
theorem dX9_isFlat_0 : decode cX9_isFlat 0 = .ok (.aload_n 0, 1) := by decide +kernel
theorem dX9_isFlat_1 : decode cX9_isFlat 1 = .ok (.getfield 7, 3) := by decide +kernel
theorem dX9_isFlat_4 : decode cX9_isFlat 4 = .ok (.iconst 5, 1) := by decide +kernel
theorem dX9_isFlat_5 : decode cX9_isFlat 5 = .ok (.iload_n 1, 1) := by decide +kernel
theorem dX9_isFlat_6 : decode cX9_isFlat 6 = .ok (.iadd, 1) := by decide +kernel
theorem dX9_isFlat_7 : decode cX9_isFlat 7 = .ok (.iaload, 1) := by decide +kernel
theorem dX9_isFlat_8 : decode cX9_isFlat 8 = .ok (.aload_n 0, 1) := by decide +kernel
theorem dX9_isFlat_9 : decode cX9_isFlat 9 = .ok (.getfield 7, 3) := by decide +kernel
theorem dX9_isFlat_12 : decode cX9_isFlat 12 = .ok (.iconst 1, 1) := by decide +kernel
theorem dX9_isFlat_13 : decode cX9_isFlat 13 = .ok (.iaload, 1) := by decide +kernel
theorem dX9_isFlat_14 : decode cX9_isFlat 14 = .ok (.if_icmp .lt 7, 3) := by decide +kernel
theorem dX9_isFlat_17 : decode cX9_isFlat 17 = .ok (.iconst 1, 1) := by decide +kernel
theorem dX9_isFlat_18 : decode cX9_isFlat 18 = .ok (.goto 4, 3) := by decide +kernel
theorem dX9_isFlat_21 : decode cX9_isFlat 21 = .ok (.iconst 0, 1) := by decide +kernel
theorem dX9_isFlat_22 : decode cX9_isFlat 22 = .ok (.ireturn, 1) := by decide +kernel
theorem dX9_keepsRights_0 : decode cX9_keepsRights 0 = .ok (.iconst 1, 1) := by decide +kernel
theorem dX9_keepsRights_1 : decode cX9_keepsRights 1 = .ok (.istore 4, 2) := by decide +kernel
theorem dX9_keepsRights_3 : decode cX9_keepsRights 3 = .ok (.iconst 0, 1) := by decide +kernel
theorem dX9_keepsRights_4 : decode cX9_keepsRights 4 = .ok (.istore 5, 2) := by decide +kernel
theorem dX9_keepsRights_6 : decode cX9_keepsRights 6 = .ok (.iload 5, 2) := by decide +kernel
theorem dX9_keepsRights_8 : decode cX9_keepsRights 8 = .ok (.aload_n 0, 1) := by decide +kernel
theorem dX9_keepsRights_9 : decode cX9_keepsRights 9 = .ok (.getfield 7, 3) := by decide +kernel
theorem dX9_keepsRights_12 : decode cX9_keepsRights 12 = .ok (.iconst 0, 1) := by decide +kernel
theorem dX9_keepsRights_13 : decode cX9_keepsRights 13 = .ok (.iaload, 1) := by decide +kernel
theorem dX9_keepsRights_14 : decode cX9_keepsRights 14 = .ok (.if_icmp .ge 47, 3) := by decide +kernel
theorem dX9_keepsRights_17 : decode cX9_keepsRights 17 = .ok (.iload 4, 2) := by decide +kernel
theorem dX9_keepsRights_19 : decode cX9_keepsRights 19 = .ok (.ifCond .eq 33, 3) := by decide +kernel
theorem dX9_keepsRights_22 : decode cX9_keepsRights 22 = .ok (.iload 5, 2) := by decide +kernel
theorem dX9_keepsRights_24 : decode cX9_keepsRights 24 = .ok (.iload_n 1, 1) := by decide +kernel
theorem dX9_keepsRights_25 : decode cX9_keepsRights 25 = .ok (.if_icmp .eq 23, 3) := by decide +kernel
theorem dX9_keepsRights_28 : decode cX9_keepsRights 28 = .ok (.aload_n 0, 1) := by decide +kernel
theorem dX9_keepsRights_29 : decode cX9_keepsRights 29 = .ok (.iload_n 1, 1) := by decide +kernel
theorem dX9_keepsRights_30 : decode cX9_keepsRights 30 = .ok (.iload_n 2, 1) := by decide +kernel
theorem dX9_keepsRights_31 : decode cX9_keepsRights 31 = .ok (.iload 5, 2) := by decide +kernel
theorem dX9_keepsRights_33 : decode cX9_keepsRights 33 = .ok (.iload_n 3, 1) := by decide +kernel
theorem dX9_keepsRights_34 : decode cX9_keepsRights 34 = .ok (.invokevirtual 54, 3) := by decide +kernel
theorem dX9_keepsRights_37 : decode cX9_keepsRights 37 = .ok (.aload_n 0, 1) := by decide +kernel
theorem dX9_keepsRights_38 : decode cX9_keepsRights 38 = .ok (.iload_n 1, 1) := by decide +kernel
theorem dX9_keepsRights_39 : decode cX9_keepsRights 39 = .ok (.iload 5, 2) := by decide +kernel
theorem dX9_keepsRights_41 : decode cX9_keepsRights 41 = .ok (.iload_n 3, 1) := by decide +kernel
theorem dX9_keepsRights_42 : decode cX9_keepsRights 42 = .ok (.invokevirtual 58, 3) := by decide +kernel
theorem dX9_keepsRights_45 : decode cX9_keepsRights 45 = .ok (.if_icmp .gt 7, 3) := by decide +kernel
theorem dX9_keepsRights_48 : decode cX9_keepsRights 48 = .ok (.iconst 1, 1) := by decide +kernel
theorem dX9_keepsRights_49 : decode cX9_keepsRights 49 = .ok (.goto 4, 3) := by decide +kernel
theorem dX9_keepsRights_52 : decode cX9_keepsRights 52 = .ok (.iconst 0, 1) := by decide +kernel
theorem dX9_keepsRights_53 : decode cX9_keepsRights 53 = .ok (.istore 4, 2) := by decide +kernel
theorem dX9_keepsRights_55 : decode cX9_keepsRights 55 = .ok (.iinc 5 1, 3) := by decide +kernel
theorem dX9_keepsRights_58 : decode cX9_keepsRights 58 = .ok (.goto (-52), 3) := by decide +kernel
theorem dX9_keepsRights_61 : decode cX9_keepsRights 61 = .ok (.iload 4, 2) := by decide +kernel
theorem dX9_keepsRights_63 : decode cX9_keepsRights 63 = .ok (.ireturn, 1) := by decide +kernel
theorem dX9_tiltIn_0 : decode cX9_tiltIn 0 = .ok (.aload_n 0, 1) := by decide +kernel
theorem dX9_tiltIn_1 : decode cX9_tiltIn 1 = .ok (.iload_n 3, 1) := by decide +kernel
theorem dX9_tiltIn_2 : decode cX9_tiltIn 2 = .ok (.invokevirtual 62, 3) := by decide +kernel
theorem dX9_tiltIn_5 : decode cX9_tiltIn 5 = .ok (.ifCond .eq 7, 3) := by decide +kernel
theorem dX9_tiltIn_8 : decode cX9_tiltIn 8 = .ok (.iconst 0, 1) := by decide +kernel
theorem dX9_tiltIn_9 : decode cX9_tiltIn 9 = .ok (.goto 4, 3) := by decide +kernel
theorem dX9_tiltIn_12 : decode cX9_tiltIn 12 = .ok (.iload_n 2, 1) := by decide +kernel
theorem dX9_tiltIn_13 : decode cX9_tiltIn 13 = .ok (.istore 4, 2) := by decide +kernel
theorem dX9_tiltIn_15 : decode cX9_tiltIn 15 = .ok (.iload 4, 2) := by decide +kernel
theorem dX9_tiltIn_17 : decode cX9_tiltIn 17 = .ok (.ifCond .le 20, 3) := by decide +kernel
theorem dX9_tiltIn_20 : decode cX9_tiltIn 20 = .ok (.aload_n 0, 1) := by decide +kernel
theorem dX9_tiltIn_21 : decode cX9_tiltIn 21 = .ok (.iload_n 1, 1) := by decide +kernel
theorem dX9_tiltIn_22 : decode cX9_tiltIn 22 = .ok (.iload 4, 2) := by decide +kernel
theorem dX9_tiltIn_24 : decode cX9_tiltIn 24 = .ok (.iload_n 3, 1) := by decide +kernel
theorem dX9_tiltIn_25 : decode cX9_tiltIn 25 = .ok (.invokevirtual 66, 3) := by decide +kernel
theorem dX9_tiltIn_28 : decode cX9_tiltIn 28 = .ok (.ifCond .ne 9, 3) := by decide +kernel
theorem dX9_tiltIn_31 : decode cX9_tiltIn 31 = .ok (.iinc 4 (-1), 3) := by decide +kernel
theorem dX9_tiltIn_34 : decode cX9_tiltIn 34 = .ok (.goto (-19), 3) := by decide +kernel
theorem dX9_tiltIn_37 : decode cX9_tiltIn 37 = .ok (.iload 4, 2) := by decide +kernel
theorem dX9_tiltIn_39 : decode cX9_tiltIn 39 = .ok (.ireturn, 1) := by decide +kernel
theorem dX9_heightIn_0 : decode cX9_heightIn 0 = .ok (.aload_n 0, 1) := by decide +kernel
theorem dX9_heightIn_1 : decode cX9_heightIn 1 = .ok (.iload_n 1, 1) := by decide +kernel
theorem dX9_heightIn_2 : decode cX9_heightIn 2 = .ok (.iconst 1, 1) := by decide +kernel
theorem dX9_heightIn_3 : decode cX9_heightIn 3 = .ok (.invokevirtual 46, 3) := by decide +kernel
theorem dX9_heightIn_6 : decode cX9_heightIn 6 = .ok (.aload_n 0, 1) := by decide +kernel
theorem dX9_heightIn_7 : decode cX9_heightIn 7 = .ok (.iload_n 1, 1) := by decide +kernel
theorem dX9_heightIn_8 : decode cX9_heightIn 8 = .ok (.aload_n 0, 1) := by decide +kernel
theorem dX9_heightIn_9 : decode cX9_heightIn 9 = .ok (.iload_n 1, 1) := by decide +kernel
theorem dX9_heightIn_10 : decode cX9_heightIn 10 = .ok (.iconst 2, 1) := by decide +kernel
theorem dX9_heightIn_11 : decode cX9_heightIn 11 = .ok (.invokevirtual 46, 3) := by decide +kernel
theorem dX9_heightIn_14 : decode cX9_heightIn 14 = .ok (.iload_n 2, 1) := by decide +kernel
theorem dX9_heightIn_15 : decode cX9_heightIn 15 = .ok (.invokevirtual 69, 3) := by decide +kernel
theorem dX9_heightIn_18 : decode cX9_heightIn 18 = .ok (.imul, 1) := by decide +kernel
theorem dX9_heightIn_19 : decode cX9_heightIn 19 = .ok (.ireturn, 1) := by decide +kernel
theorem dX9_shadowIn_0 : decode cX9_shadowIn 0 = .ok (.aload_n 0, 1) := by decide +kernel
theorem dX9_shadowIn_1 : decode cX9_shadowIn 1 = .ok (.iload_n 1, 1) := by decide +kernel
theorem dX9_shadowIn_2 : decode cX9_shadowIn 2 = .ok (.aload_n 0, 1) := by decide +kernel
theorem dX9_shadowIn_3 : decode cX9_shadowIn 3 = .ok (.iload_n 1, 1) := by decide +kernel
theorem dX9_shadowIn_4 : decode cX9_shadowIn 4 = .ok (.aload_n 0, 1) := by decide +kernel
theorem dX9_shadowIn_5 : decode cX9_shadowIn 5 = .ok (.iload_n 1, 1) := by decide +kernel
theorem dX9_shadowIn_6 : decode cX9_shadowIn 6 = .ok (.iconst 2, 1) := by decide +kernel
theorem dX9_shadowIn_7 : decode cX9_shadowIn 7 = .ok (.invokevirtual 46, 3) := by decide +kernel
theorem dX9_shadowIn_10 : decode cX9_shadowIn 10 = .ok (.iload_n 3, 1) := by decide +kernel
theorem dX9_shadowIn_11 : decode cX9_shadowIn 11 = .ok (.invokevirtual 69, 3) := by decide +kernel
theorem dX9_shadowIn_14 : decode cX9_shadowIn 14 = .ok (.iload_n 2, 1) := by decide +kernel
theorem dX9_shadowIn_15 : decode cX9_shadowIn 15 = .ok (.iload_n 3, 1) := by decide +kernel
theorem dX9_shadowIn_16 : decode cX9_shadowIn 16 = .ok (.invokevirtual 54, 3) := by decide +kernel
theorem dX9_shadowIn_19 : decode cX9_shadowIn 19 = .ok (.ireturn, 1) := by decide +kernel
theorem dX9_far_0 : decode cX9_far 0 = .ok (.aload_n 0, 1) := by decide +kernel
theorem dX9_far_1 : decode cX9_far 1 = .ok (.iload_n 1, 1) := by decide +kernel
theorem dX9_far_2 : decode cX9_far 2 = .ok (.iconst 0, 1) := by decide +kernel
theorem dX9_far_3 : decode cX9_far 3 = .ok (.invokevirtual 46, 3) := by decide +kernel
theorem dX9_far_6 : decode cX9_far 6 = .ok (.aload_n 0, 1) := by decide +kernel
theorem dX9_far_7 : decode cX9_far 7 = .ok (.iload_n 2, 1) := by decide +kernel
theorem dX9_far_8 : decode cX9_far 8 = .ok (.iconst 0, 1) := by decide +kernel
theorem dX9_far_9 : decode cX9_far 9 = .ok (.invokevirtual 46, 3) := by decide +kernel
theorem dX9_far_12 : decode cX9_far 12 = .ok (.isub, 1) := by decide +kernel
theorem dX9_far_13 : decode cX9_far 13 = .ok (.istore_n 3, 1) := by decide +kernel
theorem dX9_far_14 : decode cX9_far 14 = .ok (.iload_n 3, 1) := by decide +kernel
theorem dX9_far_15 : decode cX9_far 15 = .ok (.ifCond .ge 8, 3) := by decide +kernel
theorem dX9_far_18 : decode cX9_far 18 = .ok (.iload_n 3, 1) := by decide +kernel
theorem dX9_far_19 : decode cX9_far 19 = .ok (.ineg, 1) := by decide +kernel
theorem dX9_far_20 : decode cX9_far 20 = .ok (.goto 4, 3) := by decide +kernel
theorem dX9_far_23 : decode cX9_far 23 = .ok (.iload_n 3, 1) := by decide +kernel
theorem dX9_far_24 : decode cX9_far 24 = .ok (.ireturn, 1) := by decide +kernel
theorem dX9_blamed_0 : decode cX9_blamed 0 = .ok (.bipush (-6), 2) := by decide +kernel
theorem dX9_blamed_2 : decode cX9_blamed 2 = .ok (.istore_n 3, 1) := by decide +kernel
theorem dX9_blamed_3 : decode cX9_blamed 3 = .ok (.iconst 0, 1) := by decide +kernel
theorem dX9_blamed_4 : decode cX9_blamed 4 = .ok (.istore 4, 2) := by decide +kernel
theorem dX9_blamed_6 : decode cX9_blamed 6 = .ok (.iconst 0, 1) := by decide +kernel
theorem dX9_blamed_7 : decode cX9_blamed 7 = .ok (.istore 5, 2) := by decide +kernel
theorem dX9_blamed_9 : decode cX9_blamed 9 = .ok (.iload 5, 2) := by decide +kernel
theorem dX9_blamed_11 : decode cX9_blamed 11 = .ok (.aload_n 0, 1) := by decide +kernel
theorem dX9_blamed_12 : decode cX9_blamed 12 = .ok (.getfield 7, 3) := by decide +kernel
theorem dX9_blamed_15 : decode cX9_blamed 15 = .ok (.iconst 0, 1) := by decide +kernel
theorem dX9_blamed_16 : decode cX9_blamed 16 = .ok (.iaload, 1) := by decide +kernel
theorem dX9_blamed_17 : decode cX9_blamed 17 = .ok (.if_icmp .ge 97, 3) := by decide +kernel
theorem dX9_blamed_20 : decode cX9_blamed 20 = .ok (.iload 5, 2) := by decide +kernel
theorem dX9_blamed_22 : decode cX9_blamed 22 = .ok (.iload_n 1, 1) := by decide +kernel
theorem dX9_blamed_23 : decode cX9_blamed 23 = .ok (.if_icmp .ne 7, 3) := by decide +kernel
theorem dX9_blamed_26 : decode cX9_blamed 26 = .ok (.iconst 0, 1) := by decide +kernel
theorem dX9_blamed_27 : decode cX9_blamed 27 = .ok (.goto 11, 3) := by decide +kernel
theorem dX9_blamed_30 : decode cX9_blamed 30 = .ok (.aload_n 0, 1) := by decide +kernel
theorem dX9_blamed_31 : decode cX9_blamed 31 = .ok (.iload 5, 2) := by decide +kernel
theorem dX9_blamed_33 : decode cX9_blamed 33 = .ok (.iload_n 1, 1) := by decide +kernel
theorem dX9_blamed_34 : decode cX9_blamed 34 = .ok (.iload_n 2, 1) := by decide +kernel
theorem dX9_blamed_35 : decode cX9_blamed 35 = .ok (.invokevirtual 72, 3) := by decide +kernel
theorem dX9_blamed_38 : decode cX9_blamed 38 = .ok (.istore 6, 2) := by decide +kernel
theorem dX9_blamed_40 : decode cX9_blamed 40 = .ok (.iload 6, 2) := by decide +kernel
theorem dX9_blamed_42 : decode cX9_blamed 42 = .ok (.iload 4, 2) := by decide +kernel
theorem dX9_blamed_44 : decode cX9_blamed 44 = .ok (.if_icmp .gt 31, 3) := by decide +kernel
theorem dX9_blamed_47 : decode cX9_blamed 47 = .ok (.iload 6, 2) := by decide +kernel
theorem dX9_blamed_49 : decode cX9_blamed 49 = .ok (.ifCond .le 30, 3) := by decide +kernel
theorem dX9_blamed_52 : decode cX9_blamed 52 = .ok (.iload 6, 2) := by decide +kernel
theorem dX9_blamed_54 : decode cX9_blamed 54 = .ok (.iload 4, 2) := by decide +kernel
theorem dX9_blamed_56 : decode cX9_blamed 56 = .ok (.if_icmp .ne 23, 3) := by decide +kernel
theorem dX9_blamed_59 : decode cX9_blamed 59 = .ok (.aload_n 0, 1) := by decide +kernel
theorem dX9_blamed_60 : decode cX9_blamed 60 = .ok (.iload 5, 2) := by decide +kernel
theorem dX9_blamed_62 : decode cX9_blamed 62 = .ok (.iload_n 1, 1) := by decide +kernel
theorem dX9_blamed_63 : decode cX9_blamed 63 = .ok (.invokevirtual 75, 3) := by decide +kernel
theorem dX9_blamed_66 : decode cX9_blamed 66 = .ok (.aload_n 0, 1) := by decide +kernel
theorem dX9_blamed_67 : decode cX9_blamed 67 = .ok (.iload_n 3, 1) := by decide +kernel
theorem dX9_blamed_68 : decode cX9_blamed 68 = .ok (.iload_n 1, 1) := by decide +kernel
theorem dX9_blamed_69 : decode cX9_blamed 69 = .ok (.invokevirtual 75, 3) := by decide +kernel
theorem dX9_blamed_72 : decode cX9_blamed 72 = .ok (.if_icmp .ge 7, 3) := by decide +kernel
theorem dX9_blamed_75 : decode cX9_blamed 75 = .ok (.iconst 1, 1) := by decide +kernel
theorem dX9_blamed_76 : decode cX9_blamed 76 = .ok (.goto 4, 3) := by decide +kernel
theorem dX9_blamed_79 : decode cX9_blamed 79 = .ok (.iconst 0, 1) := by decide +kernel
theorem dX9_blamed_80 : decode cX9_blamed 80 = .ok (.istore 7, 2) := by decide +kernel
theorem dX9_blamed_82 : decode cX9_blamed 82 = .ok (.iload 7, 2) := by decide +kernel
theorem dX9_blamed_84 : decode cX9_blamed 84 = .ok (.ifCond .eq 8, 3) := by decide +kernel
theorem dX9_blamed_87 : decode cX9_blamed 87 = .ok (.iload 5, 2) := by decide +kernel
theorem dX9_blamed_89 : decode cX9_blamed 89 = .ok (.goto 4, 3) := by decide +kernel
theorem dX9_blamed_92 : decode cX9_blamed 92 = .ok (.iload_n 3, 1) := by decide +kernel
theorem dX9_blamed_93 : decode cX9_blamed 93 = .ok (.istore_n 3, 1) := by decide +kernel
theorem dX9_blamed_94 : decode cX9_blamed 94 = .ok (.iload 7, 2) := by decide +kernel
theorem dX9_blamed_96 : decode cX9_blamed 96 = .ok (.ifCond .eq 8, 3) := by decide +kernel
theorem dX9_blamed_99 : decode cX9_blamed 99 = .ok (.iload 6, 2) := by decide +kernel
theorem dX9_blamed_101 : decode cX9_blamed 101 = .ok (.goto 5, 3) := by decide +kernel
theorem dX9_blamed_104 : decode cX9_blamed 104 = .ok (.iload 4, 2) := by decide +kernel
theorem dX9_blamed_106 : decode cX9_blamed 106 = .ok (.istore 4, 2) := by decide +kernel
theorem dX9_blamed_108 : decode cX9_blamed 108 = .ok (.iinc 5 1, 3) := by decide +kernel
theorem dX9_blamed_111 : decode cX9_blamed 111 = .ok (.goto (-102), 3) := by decide +kernel
theorem dX9_blamed_114 : decode cX9_blamed 114 = .ok (.iload_n 3, 1) := by decide +kernel
theorem dX9_blamed_115 : decode cX9_blamed 115 = .ok (.ireturn, 1) := by decide +kernel
theorem dX9_shadeOf_0 : decode cX9_shadeOf 0 = .ok (.aload_n 0, 1) := by decide +kernel
theorem dX9_shadeOf_1 : decode cX9_shadeOf 1 = .ok (.iload_n 1, 1) := by decide +kernel
theorem dX9_shadeOf_2 : decode cX9_shadeOf 2 = .ok (.iload_n 2, 1) := by decide +kernel
theorem dX9_shadeOf_3 : decode cX9_shadeOf 3 = .ok (.invokevirtual 78, 3) := by decide +kernel
theorem dX9_shadeOf_6 : decode cX9_shadeOf 6 = .ok (.istore_n 3, 1) := by decide +kernel
theorem dX9_shadeOf_7 : decode cX9_shadeOf 7 = .ok (.iload_n 3, 1) := by decide +kernel
theorem dX9_shadeOf_8 : decode cX9_shadeOf 8 = .ok (.bipush (-6), 2) := by decide +kernel
theorem dX9_shadeOf_10 : decode cX9_shadeOf 10 = .ok (.if_icmp .ne 7, 3) := by decide +kernel
theorem dX9_shadeOf_13 : decode cX9_shadeOf 13 = .ok (.iconst 0, 1) := by decide +kernel
theorem dX9_shadeOf_14 : decode cX9_shadeOf 14 = .ok (.goto 10, 3) := by decide +kernel
theorem dX9_shadeOf_17 : decode cX9_shadeOf 17 = .ok (.aload_n 0, 1) := by decide +kernel
theorem dX9_shadeOf_18 : decode cX9_shadeOf 18 = .ok (.iload_n 3, 1) := by decide +kernel
theorem dX9_shadeOf_19 : decode cX9_shadeOf 19 = .ok (.iload_n 1, 1) := by decide +kernel
theorem dX9_shadeOf_20 : decode cX9_shadeOf 20 = .ok (.iload_n 2, 1) := by decide +kernel
theorem dX9_shadeOf_21 : decode cX9_shadeOf 21 = .ok (.invokevirtual 72, 3) := by decide +kernel
theorem dX9_shadeOf_24 : decode cX9_shadeOf 24 = .ok (.istore 4, 2) := by decide +kernel
theorem dX9_shadeOf_26 : decode cX9_shadeOf 26 = .ok (.aload_n 0, 1) := by decide +kernel
theorem dX9_shadeOf_27 : decode cX9_shadeOf 27 = .ok (.iload_n 1, 1) := by decide +kernel
theorem dX9_shadeOf_28 : decode cX9_shadeOf 28 = .ok (.iload_n 2, 1) := by decide +kernel
theorem dX9_shadeOf_29 : decode cX9_shadeOf 29 = .ok (.invokevirtual 81, 3) := by decide +kernel
theorem dX9_shadeOf_32 : decode cX9_shadeOf 32 = .ok (.istore 5, 2) := by decide +kernel
theorem dX9_shadeOf_34 : decode cX9_shadeOf 34 = .ok (.iload 4, 2) := by decide +kernel
theorem dX9_shadeOf_36 : decode cX9_shadeOf 36 = .ok (.iload 5, 2) := by decide +kernel
theorem dX9_shadeOf_38 : decode cX9_shadeOf 38 = .ok (.if_icmp .ge 8, 3) := by decide +kernel
theorem dX9_shadeOf_41 : decode cX9_shadeOf 41 = .ok (.iload 4, 2) := by decide +kernel
theorem dX9_shadeOf_43 : decode cX9_shadeOf 43 = .ok (.goto 5, 3) := by decide +kernel
theorem dX9_shadeOf_46 : decode cX9_shadeOf 46 = .ok (.iload 5, 2) := by decide +kernel
theorem dX9_shadeOf_48 : decode cX9_shadeOf 48 = .ok (.ireturn, 1) := by decide +kernel
theorem dX9_yieldIn_0 : decode cX9_yieldIn 0 = .ok (.aload_n 0, 1) := by decide +kernel
theorem dX9_yieldIn_1 : decode cX9_yieldIn 1 = .ok (.iload_n 1, 1) := by decide +kernel
theorem dX9_yieldIn_2 : decode cX9_yieldIn 2 = .ok (.iload_n 2, 1) := by decide +kernel
theorem dX9_yieldIn_3 : decode cX9_yieldIn 3 = .ok (.invokevirtual 81, 3) := by decide +kernel
theorem dX9_yieldIn_6 : decode cX9_yieldIn 6 = .ok (.aload_n 0, 1) := by decide +kernel
theorem dX9_yieldIn_7 : decode cX9_yieldIn 7 = .ok (.iload_n 1, 1) := by decide +kernel
theorem dX9_yieldIn_8 : decode cX9_yieldIn 8 = .ok (.iload_n 2, 1) := by decide +kernel
theorem dX9_yieldIn_9 : decode cX9_yieldIn 9 = .ok (.invokevirtual 84, 3) := by decide +kernel
theorem dX9_yieldIn_12 : decode cX9_yieldIn 12 = .ok (.isub, 1) := by decide +kernel
theorem dX9_yieldIn_13 : decode cX9_yieldIn 13 = .ok (.iload_n 2, 1) := by decide +kernel
theorem dX9_yieldIn_14 : decode cX9_yieldIn 14 = .ok (.invokestatic 87, 3) := by decide +kernel
theorem dX9_yieldIn_17 : decode cX9_yieldIn 17 = .ok (.imul, 1) := by decide +kernel
theorem dX9_yieldIn_18 : decode cX9_yieldIn 18 = .ok (.aload_n 0, 1) := by decide +kernel
theorem dX9_yieldIn_19 : decode cX9_yieldIn 19 = .ok (.iload_n 1, 1) := by decide +kernel
theorem dX9_yieldIn_20 : decode cX9_yieldIn 20 = .ok (.iconst 1, 1) := by decide +kernel
theorem dX9_yieldIn_21 : decode cX9_yieldIn 21 = .ok (.invokevirtual 46, 3) := by decide +kernel
theorem dX9_yieldIn_24 : decode cX9_yieldIn 24 = .ok (.iadd, 1) := by decide +kernel
theorem dX9_yieldIn_25 : decode cX9_yieldIn 25 = .ok (.ireturn, 1) := by decide +kernel
theorem dX9_yieldOf_0 : decode cX9_yieldOf 0 = .ok (.iconst 0, 1) := by decide +kernel
theorem dX9_yieldOf_1 : decode cX9_yieldOf 1 = .ok (.istore_n 2, 1) := by decide +kernel
theorem dX9_yieldOf_2 : decode cX9_yieldOf 2 = .ok (.iconst 0, 1) := by decide +kernel
theorem dX9_yieldOf_3 : decode cX9_yieldOf 3 = .ok (.istore_n 3, 1) := by decide +kernel
theorem dX9_yieldOf_4 : decode cX9_yieldOf 4 = .ok (.iload_n 3, 1) := by decide +kernel
theorem dX9_yieldOf_5 : decode cX9_yieldOf 5 = .ok (.bipush 10, 2) := by decide +kernel
theorem dX9_yieldOf_7 : decode cX9_yieldOf 7 = .ok (.if_icmp .ge 18, 3) := by decide +kernel
theorem dX9_yieldOf_10 : decode cX9_yieldOf 10 = .ok (.iload_n 2, 1) := by decide +kernel
theorem dX9_yieldOf_11 : decode cX9_yieldOf 11 = .ok (.aload_n 0, 1) := by decide +kernel
theorem dX9_yieldOf_12 : decode cX9_yieldOf 12 = .ok (.iload_n 1, 1) := by decide +kernel
theorem dX9_yieldOf_13 : decode cX9_yieldOf 13 = .ok (.iload_n 3, 1) := by decide +kernel
theorem dX9_yieldOf_14 : decode cX9_yieldOf 14 = .ok (.invokevirtual 90, 3) := by decide +kernel
theorem dX9_yieldOf_17 : decode cX9_yieldOf 17 = .ok (.iadd, 1) := by decide +kernel
theorem dX9_yieldOf_18 : decode cX9_yieldOf 18 = .ok (.istore_n 2, 1) := by decide +kernel
theorem dX9_yieldOf_19 : decode cX9_yieldOf 19 = .ok (.iinc 3 1, 3) := by decide +kernel
theorem dX9_yieldOf_22 : decode cX9_yieldOf 22 = .ok (.goto (-18), 3) := by decide +kernel
theorem dX9_yieldOf_25 : decode cX9_yieldOf 25 = .ok (.iload_n 2, 1) := by decide +kernel
theorem dX9_yieldOf_26 : decode cX9_yieldOf 26 = .ok (.ireturn, 1) := by decide +kernel
theorem dX9_allYields_0 : decode cX9_allYields 0 = .ok (.iconst 0, 1) := by decide +kernel
theorem dX9_allYields_1 : decode cX9_allYields 1 = .ok (.istore_n 1, 1) := by decide +kernel
theorem dX9_allYields_2 : decode cX9_allYields 2 = .ok (.iconst 0, 1) := by decide +kernel
theorem dX9_allYields_3 : decode cX9_allYields 3 = .ok (.istore_n 2, 1) := by decide +kernel
theorem dX9_allYields_4 : decode cX9_allYields 4 = .ok (.iload_n 2, 1) := by decide +kernel
theorem dX9_allYields_5 : decode cX9_allYields 5 = .ok (.aload_n 0, 1) := by decide +kernel
theorem dX9_allYields_6 : decode cX9_allYields 6 = .ok (.getfield 7, 3) := by decide +kernel
theorem dX9_allYields_9 : decode cX9_allYields 9 = .ok (.iconst 0, 1) := by decide +kernel
theorem dX9_allYields_10 : decode cX9_allYields 10 = .ok (.iaload, 1) := by decide +kernel
theorem dX9_allYields_11 : decode cX9_allYields 11 = .ok (.if_icmp .ge 17, 3) := by decide +kernel
theorem dX9_allYields_14 : decode cX9_allYields 14 = .ok (.iload_n 1, 1) := by decide +kernel
theorem dX9_allYields_15 : decode cX9_allYields 15 = .ok (.aload_n 0, 1) := by decide +kernel
theorem dX9_allYields_16 : decode cX9_allYields 16 = .ok (.iload_n 2, 1) := by decide +kernel
theorem dX9_allYields_17 : decode cX9_allYields 17 = .ok (.invokevirtual 93, 3) := by decide +kernel
theorem dX9_allYields_20 : decode cX9_allYields 20 = .ok (.iadd, 1) := by decide +kernel
theorem dX9_allYields_21 : decode cX9_allYields 21 = .ok (.istore_n 1, 1) := by decide +kernel
theorem dX9_allYields_22 : decode cX9_allYields 22 = .ok (.iinc 2 1, 3) := by decide +kernel
theorem dX9_allYields_25 : decode cX9_allYields 25 = .ok (.goto (-21), 3) := by decide +kernel
theorem dX9_allYields_28 : decode cX9_allYields 28 = .ok (.iload_n 1, 1) := by decide +kernel
theorem dX9_allYields_29 : decode cX9_allYields 29 = .ok (.ireturn, 1) := by decide +kernel
theorem dX9_isPlaceTaken_0 : decode cX9_isPlaceTaken 0 = .ok (.iconst 0, 1) := by decide +kernel
theorem dX9_isPlaceTaken_1 : decode cX9_isPlaceTaken 1 = .ok (.istore_n 2, 1) := by decide +kernel
theorem dX9_isPlaceTaken_2 : decode cX9_isPlaceTaken 2 = .ok (.iconst 0, 1) := by decide +kernel
theorem dX9_isPlaceTaken_3 : decode cX9_isPlaceTaken 3 = .ok (.istore_n 3, 1) := by decide +kernel
theorem dX9_isPlaceTaken_4 : decode cX9_isPlaceTaken 4 = .ok (.iload_n 3, 1) := by decide +kernel
theorem dX9_isPlaceTaken_5 : decode cX9_isPlaceTaken 5 = .ok (.aload_n 0, 1) := by decide +kernel
theorem dX9_isPlaceTaken_6 : decode cX9_isPlaceTaken 6 = .ok (.getfield 7, 3) := by decide +kernel
theorem dX9_isPlaceTaken_9 : decode cX9_isPlaceTaken 9 = .ok (.iconst 0, 1) := by decide +kernel
theorem dX9_isPlaceTaken_10 : decode cX9_isPlaceTaken 10 = .ok (.iaload, 1) := by decide +kernel
theorem dX9_isPlaceTaken_11 : decode cX9_isPlaceTaken 11 = .ok (.if_icmp .ge 29, 3) := by decide +kernel
theorem dX9_isPlaceTaken_14 : decode cX9_isPlaceTaken 14 = .ok (.iload_n 2, 1) := by decide +kernel
theorem dX9_isPlaceTaken_15 : decode cX9_isPlaceTaken 15 = .ok (.ifCond .ne 13, 3) := by decide +kernel
theorem dX9_isPlaceTaken_18 : decode cX9_isPlaceTaken 18 = .ok (.aload_n 0, 1) := by decide +kernel
theorem dX9_isPlaceTaken_19 : decode cX9_isPlaceTaken 19 = .ok (.iload_n 3, 1) := by decide +kernel
theorem dX9_isPlaceTaken_20 : decode cX9_isPlaceTaken 20 = .ok (.iconst 0, 1) := by decide +kernel
theorem dX9_isPlaceTaken_21 : decode cX9_isPlaceTaken 21 = .ok (.invokevirtual 46, 3) := by decide +kernel
theorem dX9_isPlaceTaken_24 : decode cX9_isPlaceTaken 24 = .ok (.iload_n 1, 1) := by decide +kernel
theorem dX9_isPlaceTaken_25 : decode cX9_isPlaceTaken 25 = .ok (.if_icmp .ne 7, 3) := by decide +kernel
theorem dX9_isPlaceTaken_28 : decode cX9_isPlaceTaken 28 = .ok (.iconst 1, 1) := by decide +kernel
theorem dX9_isPlaceTaken_29 : decode cX9_isPlaceTaken 29 = .ok (.goto 4, 3) := by decide +kernel
theorem dX9_isPlaceTaken_32 : decode cX9_isPlaceTaken 32 = .ok (.iconst 0, 1) := by decide +kernel
theorem dX9_isPlaceTaken_33 : decode cX9_isPlaceTaken 33 = .ok (.istore_n 2, 1) := by decide +kernel
theorem dX9_isPlaceTaken_34 : decode cX9_isPlaceTaken 34 = .ok (.iinc 3 1, 3) := by decide +kernel
theorem dX9_isPlaceTaken_37 : decode cX9_isPlaceTaken 37 = .ok (.goto (-33), 3) := by decide +kernel
theorem dX9_isPlaceTaken_40 : decode cX9_isPlaceTaken 40 = .ok (.iload_n 2, 1) := by decide +kernel
theorem dX9_isPlaceTaken_41 : decode cX9_isPlaceTaken 41 = .ok (.ireturn, 1) := by decide +kernel
theorem dX9_row_0 : decode cX9_row 0 = .ok (.iload_n 1, 1) := by decide +kernel
theorem dX9_row_1 : decode cX9_row 1 = .ok (.iconst 0, 1) := by decide +kernel
theorem dX9_row_2 : decode cX9_row 2 = .ok (.sipush 200, 3) := by decide +kernel
theorem dX9_row_5 : decode cX9_row 5 = .ok (.invokestatic 42, 3) := by decide +kernel
theorem dX9_row_8 : decode cX9_row 8 = .ok (.ifCond .eq 22, 3) := by decide +kernel
theorem dX9_row_11 : decode cX9_row 11 = .ok (.iload_n 2, 1) := by decide +kernel
theorem dX9_row_12 : decode cX9_row 12 = .ok (.iconst 1, 1) := by decide +kernel
theorem dX9_row_13 : decode cX9_row 13 = .ok (.bipush 20, 2) := by decide +kernel
theorem dX9_row_15 : decode cX9_row 15 = .ok (.invokestatic 42, 3) := by decide +kernel
theorem dX9_row_18 : decode cX9_row 18 = .ok (.ifCond .eq 12, 3) := by decide +kernel
theorem dX9_row_21 : decode cX9_row 21 = .ok (.iload_n 3, 1) := by decide +kernel
theorem dX9_row_22 : decode cX9_row 22 = .ok (.iconst 0, 1) := by decide +kernel
theorem dX9_row_23 : decode cX9_row 23 = .ok (.iconst 4, 1) := by decide +kernel
theorem dX9_row_24 : decode cX9_row 24 = .ok (.invokestatic 42, 3) := by decide +kernel
theorem dX9_row_27 : decode cX9_row 27 = .ok (.ifCond .ne 6, 3) := by decide +kernel
theorem dX9_row_30 : decode cX9_row 30 = .ok (.bipush (-2), 2) := by decide +kernel
theorem dX9_row_32 : decode cX9_row 32 = .ok (.ireturn, 1) := by decide +kernel
theorem dX9_row_33 : decode cX9_row 33 = .ok (.aload_n 0, 1) := by decide +kernel
theorem dX9_row_34 : decode cX9_row 34 = .ok (.getfield 7, 3) := by decide +kernel
theorem dX9_row_37 : decode cX9_row 37 = .ok (.iconst 0, 1) := by decide +kernel
theorem dX9_row_38 : decode cX9_row 38 = .ok (.iaload, 1) := by decide +kernel
theorem dX9_row_39 : decode cX9_row 39 = .ok (.bipush 6, 2) := by decide +kernel
theorem dX9_row_41 : decode cX9_row 41 = .ok (.if_icmp .ne 6, 3) := by decide +kernel
theorem dX9_row_44 : decode cX9_row 44 = .ok (.bipush (-4), 2) := by decide +kernel
theorem dX9_row_46 : decode cX9_row 46 = .ok (.ireturn, 1) := by decide +kernel
theorem dX9_row_47 : decode cX9_row 47 = .ok (.aload_n 0, 1) := by decide +kernel
theorem dX9_row_48 : decode cX9_row 48 = .ok (.iload_n 1, 1) := by decide +kernel
theorem dX9_row_49 : decode cX9_row 49 = .ok (.invokevirtual 96, 3) := by decide +kernel
theorem dX9_row_52 : decode cX9_row 52 = .ok (.ifCond .eq 6, 3) := by decide +kernel
theorem dX9_row_55 : decode cX9_row 55 = .ok (.bipush (-5), 2) := by decide +kernel
theorem dX9_row_57 : decode cX9_row 57 = .ok (.ireturn, 1) := by decide +kernel
theorem dX9_row_58 : decode cX9_row 58 = .ok (.aload_n 0, 1) := by decide +kernel
theorem dX9_row_59 : decode cX9_row 59 = .ok (.invokevirtual 99, 3) := by decide +kernel
theorem dX9_row_62 : decode cX9_row 62 = .ok (.aload_n 0, 1) := by decide +kernel
theorem dX9_row_63 : decode cX9_row 63 = .ok (.getfield 7, 3) := by decide +kernel
theorem dX9_row_66 : decode cX9_row 66 = .ok (.iconst 0, 1) := by decide +kernel
theorem dX9_row_67 : decode cX9_row 67 = .ok (.iaload, 1) := by decide +kernel
theorem dX9_row_68 : decode cX9_row 68 = .ok (.istore 4, 2) := by decide +kernel
theorem dX9_row_70 : decode cX9_row 70 = .ok (.aload_n 0, 1) := by decide +kernel
theorem dX9_row_71 : decode cX9_row 71 = .ok (.getfield 7, 3) := by decide +kernel
theorem dX9_row_74 : decode cX9_row 74 = .ok (.bipush 15, 2) := by decide +kernel
theorem dX9_row_76 : decode cX9_row 76 = .ok (.iconst 4, 1) := by decide +kernel
theorem dX9_row_77 : decode cX9_row 77 = .ok (.iload 4, 2) := by decide +kernel
theorem dX9_row_79 : decode cX9_row 79 = .ok (.imul, 1) := by decide +kernel
theorem dX9_row_80 : decode cX9_row 80 = .ok (.iadd, 1) := by decide +kernel
theorem dX9_row_81 : decode cX9_row 81 = .ok (.iconst 0, 1) := by decide +kernel
theorem dX9_row_82 : decode cX9_row 82 = .ok (.iadd, 1) := by decide +kernel
theorem dX9_row_83 : decode cX9_row 83 = .ok (.iload_n 1, 1) := by decide +kernel
theorem dX9_row_84 : decode cX9_row 84 = .ok (.iastore, 1) := by decide +kernel
theorem dX9_row_85 : decode cX9_row 85 = .ok (.aload_n 0, 1) := by decide +kernel
theorem dX9_row_86 : decode cX9_row 86 = .ok (.getfield 7, 3) := by decide +kernel
theorem dX9_row_89 : decode cX9_row 89 = .ok (.bipush 15, 2) := by decide +kernel
theorem dX9_row_91 : decode cX9_row 91 = .ok (.iconst 4, 1) := by decide +kernel
theorem dX9_row_92 : decode cX9_row 92 = .ok (.iload 4, 2) := by decide +kernel
theorem dX9_row_94 : decode cX9_row 94 = .ok (.imul, 1) := by decide +kernel
theorem dX9_row_95 : decode cX9_row 95 = .ok (.iadd, 1) := by decide +kernel
theorem dX9_row_96 : decode cX9_row 96 = .ok (.iconst 1, 1) := by decide +kernel
theorem dX9_row_97 : decode cX9_row 97 = .ok (.iadd, 1) := by decide +kernel
theorem dX9_row_98 : decode cX9_row 98 = .ok (.iload_n 2, 1) := by decide +kernel
theorem dX9_row_99 : decode cX9_row 99 = .ok (.iastore, 1) := by decide +kernel
theorem dX9_row_100 : decode cX9_row 100 = .ok (.aload_n 0, 1) := by decide +kernel
theorem dX9_row_101 : decode cX9_row 101 = .ok (.getfield 7, 3) := by decide +kernel
theorem dX9_row_104 : decode cX9_row 104 = .ok (.bipush 15, 2) := by decide +kernel
theorem dX9_row_106 : decode cX9_row 106 = .ok (.iconst 4, 1) := by decide +kernel
theorem dX9_row_107 : decode cX9_row 107 = .ok (.iload 4, 2) := by decide +kernel
theorem dX9_row_109 : decode cX9_row 109 = .ok (.imul, 1) := by decide +kernel
theorem dX9_row_110 : decode cX9_row 110 = .ok (.iadd, 1) := by decide +kernel
theorem dX9_row_111 : decode cX9_row 111 = .ok (.iconst 2, 1) := by decide +kernel
theorem dX9_row_112 : decode cX9_row 112 = .ok (.iadd, 1) := by decide +kernel
theorem dX9_row_113 : decode cX9_row 113 = .ok (.iload_n 3, 1) := by decide +kernel
theorem dX9_row_114 : decode cX9_row 114 = .ok (.iastore, 1) := by decide +kernel
theorem dX9_row_115 : decode cX9_row 115 = .ok (.aload_n 0, 1) := by decide +kernel
theorem dX9_row_116 : decode cX9_row 116 = .ok (.getfield 7, 3) := by decide +kernel
theorem dX9_row_119 : decode cX9_row 119 = .ok (.bipush 15, 2) := by decide +kernel
theorem dX9_row_121 : decode cX9_row 121 = .ok (.iconst 4, 1) := by decide +kernel
theorem dX9_row_122 : decode cX9_row 122 = .ok (.iload 4, 2) := by decide +kernel
theorem dX9_row_124 : decode cX9_row 124 = .ok (.imul, 1) := by decide +kernel
theorem dX9_row_125 : decode cX9_row 125 = .ok (.iadd, 1) := by decide +kernel
theorem dX9_row_126 : decode cX9_row 126 = .ok (.iconst 3, 1) := by decide +kernel
theorem dX9_row_127 : decode cX9_row 127 = .ok (.iadd, 1) := by decide +kernel
theorem dX9_row_128 : decode cX9_row 128 = .ok (.iconst 0, 1) := by decide +kernel
theorem dX9_row_129 : decode cX9_row 129 = .ok (.iastore, 1) := by decide +kernel
theorem dX9_row_130 : decode cX9_row 130 = .ok (.aload_n 0, 1) := by decide +kernel
theorem dX9_row_131 : decode cX9_row 131 = .ok (.getfield 7, 3) := by decide +kernel
theorem dX9_row_134 : decode cX9_row 134 = .ok (.iconst 0, 1) := by decide +kernel
theorem dX9_row_135 : decode cX9_row 135 = .ok (.dup2, 1) := by decide +kernel
theorem dX9_row_136 : decode cX9_row 136 = .ok (.iaload, 1) := by decide +kernel
theorem dX9_row_137 : decode cX9_row 137 = .ok (.iconst 1, 1) := by decide +kernel
theorem dX9_row_138 : decode cX9_row 138 = .ok (.iadd, 1) := by decide +kernel
theorem dX9_row_139 : decode cX9_row 139 = .ok (.iastore, 1) := by decide +kernel
theorem dX9_row_140 : decode cX9_row 140 = .ok (.iload 4, 2) := by decide +kernel
theorem dX9_row_142 : decode cX9_row 142 = .ok (.ireturn, 1) := by decide +kernel
theorem dX9_whyNotTilted_0 : decode cX9_whyNotTilted 0 = .ok (.aload_n 0, 1) := by decide +kernel
theorem dX9_whyNotTilted_1 : decode cX9_whyNotTilted 1 = .ok (.iload_n 1, 1) := by decide +kernel
theorem dX9_whyNotTilted_2 : decode cX9_whyNotTilted 2 = .ok (.invokevirtual 102, 3) := by decide +kernel
theorem dX9_whyNotTilted_5 : decode cX9_whyNotTilted 5 = .ok (.ifCond .ne 7, 3) := by decide +kernel
theorem dX9_whyNotTilted_8 : decode cX9_whyNotTilted 8 = .ok (.iconst (-1), 1) := by decide +kernel
theorem dX9_whyNotTilted_9 : decode cX9_whyNotTilted 9 = .ok (.goto 18, 3) := by decide +kernel
theorem dX9_whyNotTilted_12 : decode cX9_whyNotTilted 12 = .ok (.iload_n 2, 1) := by decide +kernel
theorem dX9_whyNotTilted_13 : decode cX9_whyNotTilted 13 = .ok (.iconst 0, 1) := by decide +kernel
theorem dX9_whyNotTilted_14 : decode cX9_whyNotTilted 14 = .ok (.iconst 4, 1) := by decide +kernel
theorem dX9_whyNotTilted_15 : decode cX9_whyNotTilted 15 = .ok (.invokestatic 42, 3) := by decide +kernel
theorem dX9_whyNotTilted_18 : decode cX9_whyNotTilted 18 = .ok (.ifCond .eq 7, 3) := by decide +kernel
theorem dX9_whyNotTilted_21 : decode cX9_whyNotTilted 21 = .ok (.iconst 0, 1) := by decide +kernel
theorem dX9_whyNotTilted_22 : decode cX9_whyNotTilted 22 = .ok (.goto 5, 3) := by decide +kernel
theorem dX9_whyNotTilted_25 : decode cX9_whyNotTilted 25 = .ok (.bipush (-2), 2) := by decide +kernel
theorem dX9_whyNotTilted_27 : decode cX9_whyNotTilted 27 = .ok (.ireturn, 1) := by decide +kernel
theorem dX9_tilted_0 : decode cX9_tilted 0 = .ok (.aload_n 0, 1) := by decide +kernel
theorem dX9_tilted_1 : decode cX9_tilted 1 = .ok (.iload_n 1, 1) := by decide +kernel
theorem dX9_tilted_2 : decode cX9_tilted 2 = .ok (.iconst 2, 1) := by decide +kernel
theorem dX9_tilted_3 : decode cX9_tilted 3 = .ok (.invokevirtual 46, 3) := by decide +kernel
theorem dX9_tilted_6 : decode cX9_tilted 6 = .ok (.istore_n 3, 1) := by decide +kernel
theorem dX9_tilted_7 : decode cX9_tilted 7 = .ok (.aload_n 0, 1) := by decide +kernel
theorem dX9_tilted_8 : decode cX9_tilted 8 = .ok (.getfield 7, 3) := by decide +kernel
theorem dX9_tilted_11 : decode cX9_tilted 11 = .ok (.bipush 15, 2) := by decide +kernel
theorem dX9_tilted_13 : decode cX9_tilted 13 = .ok (.iconst 4, 1) := by decide +kernel
theorem dX9_tilted_14 : decode cX9_tilted 14 = .ok (.iload_n 1, 1) := by decide +kernel
theorem dX9_tilted_15 : decode cX9_tilted 15 = .ok (.imul, 1) := by decide +kernel
theorem dX9_tilted_16 : decode cX9_tilted 16 = .ok (.iadd, 1) := by decide +kernel
theorem dX9_tilted_17 : decode cX9_tilted 17 = .ok (.iconst 2, 1) := by decide +kernel
theorem dX9_tilted_18 : decode cX9_tilted 18 = .ok (.iadd, 1) := by decide +kernel
theorem dX9_tilted_19 : decode cX9_tilted 19 = .ok (.iload_n 2, 1) := by decide +kernel
theorem dX9_tilted_20 : decode cX9_tilted 20 = .ok (.iastore, 1) := by decide +kernel
theorem dX9_tilted_21 : decode cX9_tilted 21 = .ok (.iload_n 3, 1) := by decide +kernel
theorem dX9_tilted_22 : decode cX9_tilted 22 = .ok (.ireturn, 1) := by decide +kernel
theorem dX9_tilt_0 : decode cX9_tilt 0 = .ok (.aload_n 0, 1) := by decide +kernel
theorem dX9_tilt_1 : decode cX9_tilt 1 = .ok (.iload_n 1, 1) := by decide +kernel
theorem dX9_tilt_2 : decode cX9_tilt 2 = .ok (.iload_n 2, 1) := by decide +kernel
theorem dX9_tilt_3 : decode cX9_tilt 3 = .ok (.invokevirtual 105, 3) := by decide +kernel
theorem dX9_tilt_6 : decode cX9_tilt 6 = .ok (.istore_n 3, 1) := by decide +kernel
theorem dX9_tilt_7 : decode cX9_tilt 7 = .ok (.iload_n 3, 1) := by decide +kernel
theorem dX9_tilt_8 : decode cX9_tilt 8 = .ok (.ifCond .ge 5, 3) := by decide +kernel
theorem dX9_tilt_11 : decode cX9_tilt 11 = .ok (.iload_n 3, 1) := by decide +kernel
theorem dX9_tilt_12 : decode cX9_tilt 12 = .ok (.ireturn, 1) := by decide +kernel
theorem dX9_tilt_13 : decode cX9_tilt 13 = .ok (.aload_n 0, 1) := by decide +kernel
theorem dX9_tilt_14 : decode cX9_tilt 14 = .ok (.invokevirtual 99, 3) := by decide +kernel
theorem dX9_tilt_17 : decode cX9_tilt 17 = .ok (.aload_n 0, 1) := by decide +kernel
theorem dX9_tilt_18 : decode cX9_tilt 18 = .ok (.iload_n 1, 1) := by decide +kernel
theorem dX9_tilt_19 : decode cX9_tilt 19 = .ok (.iload_n 2, 1) := by decide +kernel
theorem dX9_tilt_20 : decode cX9_tilt 20 = .ok (.invokevirtual 108, 3) := by decide +kernel
theorem dX9_tilt_23 : decode cX9_tilt 23 = .ok (.ireturn, 1) := by decide +kernel
theorem dX9_wind_0 : decode cX9_wind 0 = .ok (.iload_n 1, 1) := by decide +kernel
theorem dX9_wind_1 : decode cX9_wind 1 = .ok (.invokestatic 111, 3) := by decide +kernel
theorem dX9_wind_4 : decode cX9_wind 4 = .ok (.ifCond .eq 13, 3) := by decide +kernel
theorem dX9_wind_7 : decode cX9_wind 7 = .ok (.iload_n 2, 1) := by decide +kernel
theorem dX9_wind_8 : decode cX9_wind 8 = .ok (.iconst 0, 1) := by decide +kernel
theorem dX9_wind_9 : decode cX9_wind 9 = .ok (.bipush 9, 2) := by decide +kernel
theorem dX9_wind_11 : decode cX9_wind 11 = .ok (.invokestatic 42, 3) := by decide +kernel
theorem dX9_wind_14 : decode cX9_wind 14 = .ok (.ifCond .ne 17, 3) := by decide +kernel
theorem dX9_wind_17 : decode cX9_wind 17 = .ok (.iload_n 1, 1) := by decide +kernel
theorem dX9_wind_18 : decode cX9_wind 18 = .ok (.invokestatic 111, 3) := by decide +kernel
theorem dX9_wind_21 : decode cX9_wind 21 = .ok (.ifCond .eq 8, 3) := by decide +kernel
theorem dX9_wind_24 : decode cX9_wind 24 = .ok (.bipush (-2), 2) := by decide +kernel
theorem dX9_wind_26 : decode cX9_wind 26 = .ok (.goto 4, 3) := by decide +kernel
theorem dX9_wind_29 : decode cX9_wind 29 = .ok (.iconst (-1), 1) := by decide +kernel
theorem dX9_wind_30 : decode cX9_wind 30 = .ok (.ireturn, 1) := by decide +kernel
theorem dX9_wind_31 : decode cX9_wind 31 = .ok (.aload_n 0, 1) := by decide +kernel
theorem dX9_wind_32 : decode cX9_wind 32 = .ok (.invokevirtual 99, 3) := by decide +kernel
theorem dX9_wind_35 : decode cX9_wind 35 = .ok (.aload_n 0, 1) := by decide +kernel
theorem dX9_wind_36 : decode cX9_wind 36 = .ok (.getfield 7, 3) := by decide +kernel
theorem dX9_wind_39 : decode cX9_wind 39 = .ok (.iconst 5, 1) := by decide +kernel
theorem dX9_wind_40 : decode cX9_wind 40 = .ok (.iload_n 1, 1) := by decide +kernel
theorem dX9_wind_41 : decode cX9_wind 41 = .ok (.iadd, 1) := by decide +kernel
theorem dX9_wind_42 : decode cX9_wind 42 = .ok (.iaload, 1) := by decide +kernel
theorem dX9_wind_43 : decode cX9_wind 43 = .ok (.istore_n 3, 1) := by decide +kernel
theorem dX9_wind_44 : decode cX9_wind 44 = .ok (.aload_n 0, 1) := by decide +kernel
theorem dX9_wind_45 : decode cX9_wind 45 = .ok (.getfield 7, 3) := by decide +kernel
theorem dX9_wind_48 : decode cX9_wind 48 = .ok (.iconst 5, 1) := by decide +kernel
theorem dX9_wind_49 : decode cX9_wind 49 = .ok (.iload_n 1, 1) := by decide +kernel
theorem dX9_wind_50 : decode cX9_wind 50 = .ok (.iadd, 1) := by decide +kernel
theorem dX9_wind_51 : decode cX9_wind 51 = .ok (.iload_n 2, 1) := by decide +kernel
theorem dX9_wind_52 : decode cX9_wind 52 = .ok (.iastore, 1) := by decide +kernel
theorem dX9_wind_53 : decode cX9_wind 53 = .ok (.iload_n 3, 1) := by decide +kernel
theorem dX9_wind_54 : decode cX9_wind 54 = .ok (.ireturn, 1) := by decide +kernel
theorem dX9_stow_0 : decode cX9_stow 0 = .ok (.iload_n 1, 1) := by decide +kernel
theorem dX9_stow_1 : decode cX9_stow 1 = .ok (.iconst 1, 1) := by decide +kernel
theorem dX9_stow_2 : decode cX9_stow 2 = .ok (.bipush 10, 2) := by decide +kernel
theorem dX9_stow_4 : decode cX9_stow 4 = .ok (.invokestatic 42, 3) := by decide +kernel
theorem dX9_stow_7 : decode cX9_stow 7 = .ok (.ifCond .ne 6, 3) := by decide +kernel
theorem dX9_stow_10 : decode cX9_stow 10 = .ok (.bipush (-2), 2) := by decide +kernel
theorem dX9_stow_12 : decode cX9_stow 12 = .ok (.ireturn, 1) := by decide +kernel
theorem dX9_stow_13 : decode cX9_stow 13 = .ok (.aload_n 0, 1) := by decide +kernel
theorem dX9_stow_14 : decode cX9_stow 14 = .ok (.invokevirtual 99, 3) := by decide +kernel
theorem dX9_stow_17 : decode cX9_stow 17 = .ok (.aload_n 0, 1) := by decide +kernel
theorem dX9_stow_18 : decode cX9_stow 18 = .ok (.getfield 7, 3) := by decide +kernel
theorem dX9_stow_21 : decode cX9_stow 21 = .ok (.iconst 1, 1) := by decide +kernel
theorem dX9_stow_22 : decode cX9_stow 22 = .ok (.iaload, 1) := by decide +kernel
theorem dX9_stow_23 : decode cX9_stow 23 = .ok (.istore_n 2, 1) := by decide +kernel
theorem dX9_stow_24 : decode cX9_stow 24 = .ok (.aload_n 0, 1) := by decide +kernel
theorem dX9_stow_25 : decode cX9_stow 25 = .ok (.getfield 7, 3) := by decide +kernel
theorem dX9_stow_28 : decode cX9_stow 28 = .ok (.iconst 1, 1) := by decide +kernel
theorem dX9_stow_29 : decode cX9_stow 29 = .ok (.iload_n 1, 1) := by decide +kernel
theorem dX9_stow_30 : decode cX9_stow 30 = .ok (.iastore, 1) := by decide +kernel
theorem dX9_stow_31 : decode cX9_stow 31 = .ok (.iload_n 2, 1) := by decide +kernel
theorem dX9_stow_32 : decode cX9_stow 32 = .ok (.ireturn, 1) := by decide +kernel
theorem dX9_whyNotGranted_0 : decode cX9_whyNotGranted 0 = .ok (.aload_n 0, 1) := by decide +kernel
theorem dX9_whyNotGranted_1 : decode cX9_whyNotGranted 1 = .ok (.iload_n 1, 1) := by decide +kernel
theorem dX9_whyNotGranted_2 : decode cX9_whyNotGranted 2 = .ok (.invokevirtual 102, 3) := by decide +kernel
theorem dX9_whyNotGranted_5 : decode cX9_whyNotGranted 5 = .ok (.ifCond .eq 18, 3) := by decide +kernel
theorem dX9_whyNotGranted_8 : decode cX9_whyNotGranted 8 = .ok (.aload_n 0, 1) := by decide +kernel
theorem dX9_whyNotGranted_9 : decode cX9_whyNotGranted 9 = .ok (.iload_n 2, 1) := by decide +kernel
theorem dX9_whyNotGranted_10 : decode cX9_whyNotGranted 10 = .ok (.invokevirtual 102, 3) := by decide +kernel
theorem dX9_whyNotGranted_13 : decode cX9_whyNotGranted 13 = .ok (.ifCond .eq 10, 3) := by decide +kernel
theorem dX9_whyNotGranted_16 : decode cX9_whyNotGranted 16 = .ok (.iload_n 3, 1) := by decide +kernel
theorem dX9_whyNotGranted_17 : decode cX9_whyNotGranted 17 = .ok (.invokestatic 111, 3) := by decide +kernel
theorem dX9_whyNotGranted_20 : decode cX9_whyNotGranted 20 = .ok (.ifCond .ne 5, 3) := by decide +kernel
theorem dX9_whyNotGranted_23 : decode cX9_whyNotGranted 23 = .ok (.iconst (-1), 1) := by decide +kernel
theorem dX9_whyNotGranted_24 : decode cX9_whyNotGranted 24 = .ok (.ireturn, 1) := by decide +kernel
theorem dX9_whyNotGranted_25 : decode cX9_whyNotGranted 25 = .ok (.iload_n 1, 1) := by decide +kernel
theorem dX9_whyNotGranted_26 : decode cX9_whyNotGranted 26 = .ok (.iload_n 2, 1) := by decide +kernel
theorem dX9_whyNotGranted_27 : decode cX9_whyNotGranted 27 = .ok (.if_icmp .eq 15, 3) := by decide +kernel
theorem dX9_whyNotGranted_30 : decode cX9_whyNotGranted 30 = .ok (.iload 4, 2) := by decide +kernel
theorem dX9_whyNotGranted_32 : decode cX9_whyNotGranted 32 = .ok (.iconst 0, 1) := by decide +kernel
theorem dX9_whyNotGranted_33 : decode cX9_whyNotGranted 33 = .ok (.sipush 999, 3) := by decide +kernel
theorem dX9_whyNotGranted_36 : decode cX9_whyNotGranted 36 = .ok (.invokestatic 42, 3) := by decide +kernel
theorem dX9_whyNotGranted_39 : decode cX9_whyNotGranted 39 = .ok (.ifCond .ne 8, 3) := by decide +kernel
theorem dX9_whyNotGranted_42 : decode cX9_whyNotGranted 42 = .ok (.bipush (-2), 2) := by decide +kernel
theorem dX9_whyNotGranted_44 : decode cX9_whyNotGranted 44 = .ok (.goto 4, 3) := by decide +kernel
theorem dX9_whyNotGranted_47 : decode cX9_whyNotGranted 47 = .ok (.iconst 0, 1) := by decide +kernel
theorem dX9_whyNotGranted_48 : decode cX9_whyNotGranted 48 = .ok (.ireturn, 1) := by decide +kernel
theorem dX9_grant_0 : decode cX9_grant 0 = .ok (.aload_n 0, 1) := by decide +kernel
theorem dX9_grant_1 : decode cX9_grant 1 = .ok (.iload_n 1, 1) := by decide +kernel
theorem dX9_grant_2 : decode cX9_grant 2 = .ok (.iload_n 2, 1) := by decide +kernel
theorem dX9_grant_3 : decode cX9_grant 3 = .ok (.iload_n 3, 1) := by decide +kernel
theorem dX9_grant_4 : decode cX9_grant 4 = .ok (.iload 4, 2) := by decide +kernel
theorem dX9_grant_6 : decode cX9_grant 6 = .ok (.invokevirtual 114, 3) := by decide +kernel
theorem dX9_grant_9 : decode cX9_grant 9 = .ok (.istore 5, 2) := by decide +kernel
theorem dX9_grant_11 : decode cX9_grant 11 = .ok (.iload 5, 2) := by decide +kernel
theorem dX9_grant_13 : decode cX9_grant 13 = .ok (.ifCond .ge 6, 3) := by decide +kernel
theorem dX9_grant_16 : decode cX9_grant 16 = .ok (.iload 5, 2) := by decide +kernel
theorem dX9_grant_18 : decode cX9_grant 18 = .ok (.ireturn, 1) := by decide +kernel
theorem dX9_grant_19 : decode cX9_grant 19 = .ok (.aload_n 0, 1) := by decide +kernel
theorem dX9_grant_20 : decode cX9_grant 20 = .ok (.invokevirtual 99, 3) := by decide +kernel
theorem dX9_grant_23 : decode cX9_grant 23 = .ok (.aload_n 0, 1) := by decide +kernel
theorem dX9_grant_24 : decode cX9_grant 24 = .ok (.iload_n 1, 1) := by decide +kernel
theorem dX9_grant_25 : decode cX9_grant 25 = .ok (.iload_n 2, 1) := by decide +kernel
theorem dX9_grant_26 : decode cX9_grant 26 = .ok (.iload_n 3, 1) := by decide +kernel
theorem dX9_grant_27 : decode cX9_grant 27 = .ok (.invokevirtual 58, 3) := by decide +kernel
theorem dX9_grant_30 : decode cX9_grant 30 = .ok (.istore 6, 2) := by decide +kernel
theorem dX9_grant_32 : decode cX9_grant 32 = .ok (.aload_n 0, 1) := by decide +kernel
theorem dX9_grant_33 : decode cX9_grant 33 = .ok (.iload_n 1, 1) := by decide +kernel
theorem dX9_grant_34 : decode cX9_grant 34 = .ok (.iload_n 2, 1) := by decide +kernel
theorem dX9_grant_35 : decode cX9_grant 35 = .ok (.iload_n 3, 1) := by decide +kernel
theorem dX9_grant_36 : decode cX9_grant 36 = .ok (.iload 4, 2) := by decide +kernel
theorem dX9_grant_38 : decode cX9_grant 38 = .ok (.invokevirtual 117, 3) := by decide +kernel
theorem dX9_grant_41 : decode cX9_grant 41 = .ok (.iload 6, 2) := by decide +kernel
theorem dX9_grant_43 : decode cX9_grant 43 = .ok (.ireturn, 1) := by decide +kernel
theorem dX9_areUnits_0 : decode cX9_areUnits 0 = .ok (.iload_n 0, 1) := by decide +kernel
theorem dX9_areUnits_1 : decode cX9_areUnits 1 = .ok (.iconst 1, 1) := by decide +kernel
theorem dX9_areUnits_2 : decode cX9_areUnits 2 = .ok (.sipush 200, 3) := by decide +kernel
theorem dX9_areUnits_5 : decode cX9_areUnits 5 = .ok (.invokestatic 42, 3) := by decide +kernel
theorem dX9_areUnits_8 : decode cX9_areUnits 8 = .ok (.ifCond .eq 18, 3) := by decide +kernel
theorem dX9_areUnits_11 : decode cX9_areUnits 11 = .ok (.iload_n 1, 1) := by decide +kernel
theorem dX9_areUnits_12 : decode cX9_areUnits 12 = .ok (.iconst 0, 1) := by decide +kernel
theorem dX9_areUnits_13 : decode cX9_areUnits 13 = .ok (.sipush 999, 3) := by decide +kernel
theorem dX9_areUnits_16 : decode cX9_areUnits 16 = .ok (.invokestatic 42, 3) := by decide +kernel
theorem dX9_areUnits_19 : decode cX9_areUnits 19 = .ok (.ifCond .eq 7, 3) := by decide +kernel
theorem dX9_areUnits_22 : decode cX9_areUnits 22 = .ok (.iconst 1, 1) := by decide +kernel
theorem dX9_areUnits_23 : decode cX9_areUnits 23 = .ok (.goto 4, 3) := by decide +kernel
theorem dX9_areUnits_26 : decode cX9_areUnits 26 = .ok (.iconst 0, 1) := by decide +kernel
theorem dX9_areUnits_27 : decode cX9_areUnits 27 = .ok (.ireturn, 1) := by decide +kernel
theorem dX9_whyNotAsked_0 : decode cX9_whyNotAsked 0 = .ok (.aload_n 0, 1) := by decide +kernel
theorem dX9_whyNotAsked_1 : decode cX9_whyNotAsked 1 = .ok (.iload_n 1, 1) := by decide +kernel
theorem dX9_whyNotAsked_2 : decode cX9_whyNotAsked 2 = .ok (.invokevirtual 102, 3) := by decide +kernel
theorem dX9_whyNotAsked_5 : decode cX9_whyNotAsked 5 = .ok (.ifCond .eq 10, 3) := by decide +kernel
theorem dX9_whyNotAsked_8 : decode cX9_whyNotAsked 8 = .ok (.iload_n 2, 1) := by decide +kernel
theorem dX9_whyNotAsked_9 : decode cX9_whyNotAsked 9 = .ok (.invokestatic 111, 3) := by decide +kernel
theorem dX9_whyNotAsked_12 : decode cX9_whyNotAsked 12 = .ok (.ifCond .ne 5, 3) := by decide +kernel
theorem dX9_whyNotAsked_15 : decode cX9_whyNotAsked 15 = .ok (.iconst (-1), 1) := by decide +kernel
theorem dX9_whyNotAsked_16 : decode cX9_whyNotAsked 16 = .ok (.ireturn, 1) := by decide +kernel
theorem dX9_whyNotAsked_17 : decode cX9_whyNotAsked 17 = .ok (.iload_n 3, 1) := by decide +kernel
theorem dX9_whyNotAsked_18 : decode cX9_whyNotAsked 18 = .ok (.iload 4, 2) := by decide +kernel
theorem dX9_whyNotAsked_20 : decode cX9_whyNotAsked 20 = .ok (.invokestatic 121, 3) := by decide +kernel
theorem dX9_whyNotAsked_23 : decode cX9_whyNotAsked 23 = .ok (.ifCond .ne 8, 3) := by decide +kernel
theorem dX9_whyNotAsked_26 : decode cX9_whyNotAsked 26 = .ok (.bipush (-2), 2) := by decide +kernel
theorem dX9_whyNotAsked_28 : decode cX9_whyNotAsked 28 = .ok (.goto 20, 3) := by decide +kernel
theorem dX9_whyNotAsked_31 : decode cX9_whyNotAsked 31 = .ok (.aload_n 0, 1) := by decide +kernel
theorem dX9_whyNotAsked_32 : decode cX9_whyNotAsked 32 = .ok (.getfield 7, 3) := by decide +kernel
theorem dX9_whyNotAsked_35 : decode cX9_whyNotAsked 35 = .ok (.iconst 3, 1) := by decide +kernel
theorem dX9_whyNotAsked_36 : decode cX9_whyNotAsked 36 = .ok (.iaload, 1) := by decide +kernel
theorem dX9_whyNotAsked_37 : decode cX9_whyNotAsked 37 = .ok (.bipush 10, 2) := by decide +kernel
theorem dX9_whyNotAsked_39 : decode cX9_whyNotAsked 39 = .ok (.if_icmp .ne 8, 3) := by decide +kernel
theorem dX9_whyNotAsked_42 : decode cX9_whyNotAsked 42 = .ok (.bipush (-4), 2) := by decide +kernel
theorem dX9_whyNotAsked_44 : decode cX9_whyNotAsked 44 = .ok (.goto 4, 3) := by decide +kernel
theorem dX9_whyNotAsked_47 : decode cX9_whyNotAsked 47 = .ok (.iconst 0, 1) := by decide +kernel
theorem dX9_whyNotAsked_48 : decode cX9_whyNotAsked 48 = .ok (.ireturn, 1) := by decide +kernel
theorem dX9_asked_0 : decode cX9_asked 0 = .ok (.sipush 399, 3) := by decide +kernel
theorem dX9_asked_3 : decode cX9_asked 3 = .ok (.iconst 4, 1) := by decide +kernel
theorem dX9_asked_4 : decode cX9_asked 4 = .ok (.aload_n 0, 1) := by decide +kernel
theorem dX9_asked_5 : decode cX9_asked 5 = .ok (.getfield 7, 3) := by decide +kernel
theorem dX9_asked_8 : decode cX9_asked 8 = .ok (.iconst 3, 1) := by decide +kernel
theorem dX9_asked_9 : decode cX9_asked 9 = .ok (.iaload, 1) := by decide +kernel
theorem dX9_asked_10 : decode cX9_asked 10 = .ok (.imul, 1) := by decide +kernel
theorem dX9_asked_11 : decode cX9_asked 11 = .ok (.iadd, 1) := by decide +kernel
theorem dX9_asked_12 : decode cX9_asked 12 = .ok (.istore 5, 2) := by decide +kernel
theorem dX9_asked_14 : decode cX9_asked 14 = .ok (.aload_n 0, 1) := by decide +kernel
theorem dX9_asked_15 : decode cX9_asked 15 = .ok (.getfield 7, 3) := by decide +kernel
theorem dX9_asked_18 : decode cX9_asked 18 = .ok (.iload 5, 2) := by decide +kernel
theorem dX9_asked_20 : decode cX9_asked 20 = .ok (.iconst 0, 1) := by decide +kernel
theorem dX9_asked_21 : decode cX9_asked 21 = .ok (.iadd, 1) := by decide +kernel
theorem dX9_asked_22 : decode cX9_asked 22 = .ok (.iload_n 1, 1) := by decide +kernel
theorem dX9_asked_23 : decode cX9_asked 23 = .ok (.iastore, 1) := by decide +kernel
theorem dX9_asked_24 : decode cX9_asked 24 = .ok (.aload_n 0, 1) := by decide +kernel
theorem dX9_asked_25 : decode cX9_asked 25 = .ok (.getfield 7, 3) := by decide +kernel
theorem dX9_asked_28 : decode cX9_asked 28 = .ok (.iload 5, 2) := by decide +kernel
theorem dX9_asked_30 : decode cX9_asked 30 = .ok (.iconst 1, 1) := by decide +kernel
theorem dX9_asked_31 : decode cX9_asked 31 = .ok (.iadd, 1) := by decide +kernel
theorem dX9_asked_32 : decode cX9_asked 32 = .ok (.iload_n 2, 1) := by decide +kernel
theorem dX9_asked_33 : decode cX9_asked 33 = .ok (.iastore, 1) := by decide +kernel
theorem dX9_asked_34 : decode cX9_asked 34 = .ok (.aload_n 0, 1) := by decide +kernel
theorem dX9_asked_35 : decode cX9_asked 35 = .ok (.getfield 7, 3) := by decide +kernel
theorem dX9_asked_38 : decode cX9_asked 38 = .ok (.iload 5, 2) := by decide +kernel
theorem dX9_asked_40 : decode cX9_asked 40 = .ok (.iconst 2, 1) := by decide +kernel
theorem dX9_asked_41 : decode cX9_asked 41 = .ok (.iadd, 1) := by decide +kernel
theorem dX9_asked_42 : decode cX9_asked 42 = .ok (.iload_n 3, 1) := by decide +kernel
theorem dX9_asked_43 : decode cX9_asked 43 = .ok (.iastore, 1) := by decide +kernel
theorem dX9_asked_44 : decode cX9_asked 44 = .ok (.aload_n 0, 1) := by decide +kernel
theorem dX9_asked_45 : decode cX9_asked 45 = .ok (.getfield 7, 3) := by decide +kernel
theorem dX9_asked_48 : decode cX9_asked 48 = .ok (.iload 5, 2) := by decide +kernel
theorem dX9_asked_50 : decode cX9_asked 50 = .ok (.iconst 3, 1) := by decide +kernel
theorem dX9_asked_51 : decode cX9_asked 51 = .ok (.iadd, 1) := by decide +kernel
theorem dX9_asked_52 : decode cX9_asked 52 = .ok (.iload 4, 2) := by decide +kernel
theorem dX9_asked_54 : decode cX9_asked 54 = .ok (.iastore, 1) := by decide +kernel
theorem dX9_asked_55 : decode cX9_asked 55 = .ok (.aload_n 0, 1) := by decide +kernel
theorem dX9_asked_56 : decode cX9_asked 56 = .ok (.getfield 7, 3) := by decide +kernel
theorem dX9_asked_59 : decode cX9_asked 59 = .ok (.iconst 3, 1) := by decide +kernel
theorem dX9_asked_60 : decode cX9_asked 60 = .ok (.dup2, 1) := by decide +kernel
theorem dX9_asked_61 : decode cX9_asked 61 = .ok (.iaload, 1) := by decide +kernel
theorem dX9_asked_62 : decode cX9_asked 62 = .ok (.iconst 1, 1) := by decide +kernel
theorem dX9_asked_63 : decode cX9_asked 63 = .ok (.iadd, 1) := by decide +kernel
theorem dX9_asked_64 : decode cX9_asked 64 = .ok (.iastore, 1) := by decide +kernel
theorem dX9_asked_65 : decode cX9_asked 65 = .ok (.aload_n 0, 1) := by decide +kernel
theorem dX9_asked_66 : decode cX9_asked 66 = .ok (.getfield 7, 3) := by decide +kernel
theorem dX9_asked_69 : decode cX9_asked 69 = .ok (.iconst 3, 1) := by decide +kernel
theorem dX9_asked_70 : decode cX9_asked 70 = .ok (.iaload, 1) := by decide +kernel
theorem dX9_asked_71 : decode cX9_asked 71 = .ok (.ireturn, 1) := by decide +kernel
theorem dX9_ask_0 : decode cX9_ask 0 = .ok (.aload_n 0, 1) := by decide +kernel
theorem dX9_ask_1 : decode cX9_ask 1 = .ok (.iload_n 1, 1) := by decide +kernel
theorem dX9_ask_2 : decode cX9_ask 2 = .ok (.iload_n 2, 1) := by decide +kernel
theorem dX9_ask_3 : decode cX9_ask 3 = .ok (.iload_n 3, 1) := by decide +kernel
theorem dX9_ask_4 : decode cX9_ask 4 = .ok (.iload 4, 2) := by decide +kernel
theorem dX9_ask_6 : decode cX9_ask 6 = .ok (.invokevirtual 125, 3) := by decide +kernel
theorem dX9_ask_9 : decode cX9_ask 9 = .ok (.istore 5, 2) := by decide +kernel
theorem dX9_ask_11 : decode cX9_ask 11 = .ok (.iload 5, 2) := by decide +kernel
theorem dX9_ask_13 : decode cX9_ask 13 = .ok (.ifCond .ge 6, 3) := by decide +kernel
theorem dX9_ask_16 : decode cX9_ask 16 = .ok (.iload 5, 2) := by decide +kernel
theorem dX9_ask_18 : decode cX9_ask 18 = .ok (.ireturn, 1) := by decide +kernel
theorem dX9_ask_19 : decode cX9_ask 19 = .ok (.aload_n 0, 1) := by decide +kernel
theorem dX9_ask_20 : decode cX9_ask 20 = .ok (.invokevirtual 99, 3) := by decide +kernel
theorem dX9_ask_23 : decode cX9_ask 23 = .ok (.aload_n 0, 1) := by decide +kernel
theorem dX9_ask_24 : decode cX9_ask 24 = .ok (.iload_n 1, 1) := by decide +kernel
theorem dX9_ask_25 : decode cX9_ask 25 = .ok (.iload_n 2, 1) := by decide +kernel
theorem dX9_ask_26 : decode cX9_ask 26 = .ok (.iload_n 3, 1) := by decide +kernel
theorem dX9_ask_27 : decode cX9_ask 27 = .ok (.iload 4, 2) := by decide +kernel
theorem dX9_ask_29 : decode cX9_ask 29 = .ok (.invokevirtual 128, 3) := by decide +kernel
theorem dX9_ask_32 : decode cX9_ask 32 = .ok (.ireturn, 1) := by decide +kernel
theorem dX9_whyNotBid_0 : decode cX9_whyNotBid 0 = .ok (.aload_n 0, 1) := by decide +kernel
theorem dX9_whyNotBid_1 : decode cX9_whyNotBid 1 = .ok (.iload_n 1, 1) := by decide +kernel
theorem dX9_whyNotBid_2 : decode cX9_whyNotBid 2 = .ok (.invokevirtual 102, 3) := by decide +kernel
theorem dX9_whyNotBid_5 : decode cX9_whyNotBid 5 = .ok (.ifCond .eq 18, 3) := by decide +kernel
theorem dX9_whyNotBid_8 : decode cX9_whyNotBid 8 = .ok (.aload_n 0, 1) := by decide +kernel
theorem dX9_whyNotBid_9 : decode cX9_whyNotBid 9 = .ok (.iload_n 2, 1) := by decide +kernel
theorem dX9_whyNotBid_10 : decode cX9_whyNotBid 10 = .ok (.invokevirtual 102, 3) := by decide +kernel
theorem dX9_whyNotBid_13 : decode cX9_whyNotBid 13 = .ok (.ifCond .eq 10, 3) := by decide +kernel
theorem dX9_whyNotBid_16 : decode cX9_whyNotBid 16 = .ok (.iload_n 3, 1) := by decide +kernel
theorem dX9_whyNotBid_17 : decode cX9_whyNotBid 17 = .ok (.invokestatic 111, 3) := by decide +kernel
theorem dX9_whyNotBid_20 : decode cX9_whyNotBid 20 = .ok (.ifCond .ne 5, 3) := by decide +kernel
theorem dX9_whyNotBid_23 : decode cX9_whyNotBid 23 = .ok (.iconst (-1), 1) := by decide +kernel
theorem dX9_whyNotBid_24 : decode cX9_whyNotBid 24 = .ok (.ireturn, 1) := by decide +kernel
theorem dX9_whyNotBid_25 : decode cX9_whyNotBid 25 = .ok (.iload_n 1, 1) := by decide +kernel
theorem dX9_whyNotBid_26 : decode cX9_whyNotBid 26 = .ok (.iload_n 2, 1) := by decide +kernel
theorem dX9_whyNotBid_27 : decode cX9_whyNotBid 27 = .ok (.if_icmp .eq 13, 3) := by decide +kernel
theorem dX9_whyNotBid_30 : decode cX9_whyNotBid 30 = .ok (.iload 4, 2) := by decide +kernel
theorem dX9_whyNotBid_32 : decode cX9_whyNotBid 32 = .ok (.iload 5, 2) := by decide +kernel
theorem dX9_whyNotBid_34 : decode cX9_whyNotBid 34 = .ok (.invokestatic 121, 3) := by decide +kernel
theorem dX9_whyNotBid_37 : decode cX9_whyNotBid 37 = .ok (.ifCond .ne 8, 3) := by decide +kernel
theorem dX9_whyNotBid_40 : decode cX9_whyNotBid 40 = .ok (.bipush (-2), 2) := by decide +kernel
theorem dX9_whyNotBid_42 : decode cX9_whyNotBid 42 = .ok (.goto 20, 3) := by decide +kernel
theorem dX9_whyNotBid_45 : decode cX9_whyNotBid 45 = .ok (.aload_n 0, 1) := by decide +kernel
theorem dX9_whyNotBid_46 : decode cX9_whyNotBid 46 = .ok (.getfield 7, 3) := by decide +kernel
theorem dX9_whyNotBid_49 : decode cX9_whyNotBid 49 = .ok (.iconst 4, 1) := by decide +kernel
theorem dX9_whyNotBid_50 : decode cX9_whyNotBid 50 = .ok (.iaload, 1) := by decide +kernel
theorem dX9_whyNotBid_51 : decode cX9_whyNotBid 51 = .ok (.bipush 10, 2) := by decide +kernel
theorem dX9_whyNotBid_53 : decode cX9_whyNotBid 53 = .ok (.if_icmp .ne 8, 3) := by decide +kernel
theorem dX9_whyNotBid_56 : decode cX9_whyNotBid 56 = .ok (.bipush (-4), 2) := by decide +kernel
theorem dX9_whyNotBid_58 : decode cX9_whyNotBid 58 = .ok (.goto 4, 3) := by decide +kernel
theorem dX9_whyNotBid_61 : decode cX9_whyNotBid 61 = .ok (.iconst 0, 1) := by decide +kernel
theorem dX9_whyNotBid_62 : decode cX9_whyNotBid 62 = .ok (.ireturn, 1) := by decide +kernel
theorem dX9_bought_0 : decode cX9_bought 0 = .ok (.sipush 439, 3) := by decide +kernel
theorem dX9_bought_3 : decode cX9_bought 3 = .ok (.iconst 5, 1) := by decide +kernel
theorem dX9_bought_4 : decode cX9_bought 4 = .ok (.aload_n 0, 1) := by decide +kernel
theorem dX9_bought_5 : decode cX9_bought 5 = .ok (.getfield 7, 3) := by decide +kernel
theorem dX9_bought_8 : decode cX9_bought 8 = .ok (.iconst 4, 1) := by decide +kernel
theorem dX9_bought_9 : decode cX9_bought 9 = .ok (.iaload, 1) := by decide +kernel
theorem dX9_bought_10 : decode cX9_bought 10 = .ok (.imul, 1) := by decide +kernel
theorem dX9_bought_11 : decode cX9_bought 11 = .ok (.iadd, 1) := by decide +kernel
theorem dX9_bought_12 : decode cX9_bought 12 = .ok (.istore 6, 2) := by decide +kernel
theorem dX9_bought_14 : decode cX9_bought 14 = .ok (.aload_n 0, 1) := by decide +kernel
theorem dX9_bought_15 : decode cX9_bought 15 = .ok (.getfield 7, 3) := by decide +kernel
theorem dX9_bought_18 : decode cX9_bought 18 = .ok (.iload 6, 2) := by decide +kernel
theorem dX9_bought_20 : decode cX9_bought 20 = .ok (.iconst 0, 1) := by decide +kernel
theorem dX9_bought_21 : decode cX9_bought 21 = .ok (.iadd, 1) := by decide +kernel
theorem dX9_bought_22 : decode cX9_bought 22 = .ok (.iload_n 2, 1) := by decide +kernel
theorem dX9_bought_23 : decode cX9_bought 23 = .ok (.iastore, 1) := by decide +kernel
theorem dX9_bought_24 : decode cX9_bought 24 = .ok (.aload_n 0, 1) := by decide +kernel
theorem dX9_bought_25 : decode cX9_bought 25 = .ok (.getfield 7, 3) := by decide +kernel
theorem dX9_bought_28 : decode cX9_bought 28 = .ok (.iload 6, 2) := by decide +kernel
theorem dX9_bought_30 : decode cX9_bought 30 = .ok (.iconst 1, 1) := by decide +kernel
theorem dX9_bought_31 : decode cX9_bought 31 = .ok (.iadd, 1) := by decide +kernel
theorem dX9_bought_32 : decode cX9_bought 32 = .ok (.iload_n 3, 1) := by decide +kernel
theorem dX9_bought_33 : decode cX9_bought 33 = .ok (.iastore, 1) := by decide +kernel
theorem dX9_bought_34 : decode cX9_bought 34 = .ok (.aload_n 0, 1) := by decide +kernel
theorem dX9_bought_35 : decode cX9_bought 35 = .ok (.getfield 7, 3) := by decide +kernel
theorem dX9_bought_38 : decode cX9_bought 38 = .ok (.iload 6, 2) := by decide +kernel
theorem dX9_bought_40 : decode cX9_bought 40 = .ok (.iconst 2, 1) := by decide +kernel
theorem dX9_bought_41 : decode cX9_bought 41 = .ok (.iadd, 1) := by decide +kernel
theorem dX9_bought_42 : decode cX9_bought 42 = .ok (.iload 4, 2) := by decide +kernel
theorem dX9_bought_44 : decode cX9_bought 44 = .ok (.iastore, 1) := by decide +kernel
theorem dX9_bought_45 : decode cX9_bought 45 = .ok (.aload_n 0, 1) := by decide +kernel
theorem dX9_bought_46 : decode cX9_bought 46 = .ok (.getfield 7, 3) := by decide +kernel
theorem dX9_bought_49 : decode cX9_bought 49 = .ok (.iload 6, 2) := by decide +kernel
theorem dX9_bought_51 : decode cX9_bought 51 = .ok (.iconst 3, 1) := by decide +kernel
theorem dX9_bought_52 : decode cX9_bought 52 = .ok (.iadd, 1) := by decide +kernel
theorem dX9_bought_53 : decode cX9_bought 53 = .ok (.iload 5, 2) := by decide +kernel
theorem dX9_bought_55 : decode cX9_bought 55 = .ok (.iastore, 1) := by decide +kernel
theorem dX9_bought_56 : decode cX9_bought 56 = .ok (.aload_n 0, 1) := by decide +kernel
theorem dX9_bought_57 : decode cX9_bought 57 = .ok (.getfield 7, 3) := by decide +kernel
theorem dX9_bought_60 : decode cX9_bought 60 = .ok (.iload 6, 2) := by decide +kernel
theorem dX9_bought_62 : decode cX9_bought 62 = .ok (.iconst 4, 1) := by decide +kernel
theorem dX9_bought_63 : decode cX9_bought 63 = .ok (.iadd, 1) := by decide +kernel
theorem dX9_bought_64 : decode cX9_bought 64 = .ok (.iload_n 1, 1) := by decide +kernel
theorem dX9_bought_65 : decode cX9_bought 65 = .ok (.iastore, 1) := by decide +kernel
theorem dX9_bought_66 : decode cX9_bought 66 = .ok (.aload_n 0, 1) := by decide +kernel
theorem dX9_bought_67 : decode cX9_bought 67 = .ok (.getfield 7, 3) := by decide +kernel
theorem dX9_bought_70 : decode cX9_bought 70 = .ok (.iconst 4, 1) := by decide +kernel
theorem dX9_bought_71 : decode cX9_bought 71 = .ok (.dup2, 1) := by decide +kernel
theorem dX9_bought_72 : decode cX9_bought 72 = .ok (.iaload, 1) := by decide +kernel
theorem dX9_bought_73 : decode cX9_bought 73 = .ok (.iconst 1, 1) := by decide +kernel
theorem dX9_bought_74 : decode cX9_bought 74 = .ok (.iadd, 1) := by decide +kernel
theorem dX9_bought_75 : decode cX9_bought 75 = .ok (.iastore, 1) := by decide +kernel
theorem dX9_bought_76 : decode cX9_bought 76 = .ok (.aload_n 0, 1) := by decide +kernel
theorem dX9_bought_77 : decode cX9_bought 77 = .ok (.getfield 7, 3) := by decide +kernel
theorem dX9_bought_80 : decode cX9_bought 80 = .ok (.iconst 4, 1) := by decide +kernel
theorem dX9_bought_81 : decode cX9_bought 81 = .ok (.iaload, 1) := by decide +kernel
theorem dX9_bought_82 : decode cX9_bought 82 = .ok (.ireturn, 1) := by decide +kernel
theorem dX9_bid_0 : decode cX9_bid 0 = .ok (.aload_n 0, 1) := by decide +kernel
theorem dX9_bid_1 : decode cX9_bid 1 = .ok (.iload_n 1, 1) := by decide +kernel
theorem dX9_bid_2 : decode cX9_bid 2 = .ok (.iload_n 2, 1) := by decide +kernel
theorem dX9_bid_3 : decode cX9_bid 3 = .ok (.iload_n 3, 1) := by decide +kernel
theorem dX9_bid_4 : decode cX9_bid 4 = .ok (.iload 4, 2) := by decide +kernel
theorem dX9_bid_6 : decode cX9_bid 6 = .ok (.iload 5, 2) := by decide +kernel
theorem dX9_bid_8 : decode cX9_bid 8 = .ok (.invokevirtual 131, 3) := by decide +kernel
theorem dX9_bid_11 : decode cX9_bid 11 = .ok (.istore 6, 2) := by decide +kernel
theorem dX9_bid_13 : decode cX9_bid 13 = .ok (.iload 6, 2) := by decide +kernel
theorem dX9_bid_15 : decode cX9_bid 15 = .ok (.ifCond .ge 6, 3) := by decide +kernel
theorem dX9_bid_18 : decode cX9_bid 18 = .ok (.iload 6, 2) := by decide +kernel
theorem dX9_bid_20 : decode cX9_bid 20 = .ok (.ireturn, 1) := by decide +kernel
theorem dX9_bid_21 : decode cX9_bid 21 = .ok (.aload_n 0, 1) := by decide +kernel
theorem dX9_bid_22 : decode cX9_bid 22 = .ok (.invokevirtual 99, 3) := by decide +kernel
theorem dX9_bid_25 : decode cX9_bid 25 = .ok (.aload_n 0, 1) := by decide +kernel
theorem dX9_bid_26 : decode cX9_bid 26 = .ok (.iload_n 1, 1) := by decide +kernel
theorem dX9_bid_27 : decode cX9_bid 27 = .ok (.iload_n 2, 1) := by decide +kernel
theorem dX9_bid_28 : decode cX9_bid 28 = .ok (.iload_n 3, 1) := by decide +kernel
theorem dX9_bid_29 : decode cX9_bid 29 = .ok (.iload 4, 2) := by decide +kernel
theorem dX9_bid_31 : decode cX9_bid 31 = .ok (.iload 5, 2) := by decide +kernel
theorem dX9_bid_33 : decode cX9_bid 33 = .ok (.invokevirtual 135, 3) := by decide +kernel
theorem dX9_bid_36 : decode cX9_bid 36 = .ok (.ireturn, 1) := by decide +kernel
theorem dX9_dropAsk_0 : decode cX9_dropAsk 0 = .ok (.sipush 399, 3) := by decide +kernel
theorem dX9_dropAsk_3 : decode cX9_dropAsk 3 = .ok (.iconst 4, 1) := by decide +kernel
theorem dX9_dropAsk_4 : decode cX9_dropAsk 4 = .ok (.iload_n 1, 1) := by decide +kernel
theorem dX9_dropAsk_5 : decode cX9_dropAsk 5 = .ok (.imul, 1) := by decide +kernel
theorem dX9_dropAsk_6 : decode cX9_dropAsk 6 = .ok (.iadd, 1) := by decide +kernel
theorem dX9_dropAsk_7 : decode cX9_dropAsk 7 = .ok (.istore_n 2, 1) := by decide +kernel
theorem dX9_dropAsk_8 : decode cX9_dropAsk 8 = .ok (.iload_n 2, 1) := by decide +kernel
theorem dX9_dropAsk_9 : decode cX9_dropAsk 9 = .ok (.sipush 399, 3) := by decide +kernel
theorem dX9_dropAsk_12 : decode cX9_dropAsk 12 = .ok (.iconst 4, 1) := by decide +kernel
theorem dX9_dropAsk_13 : decode cX9_dropAsk 13 = .ok (.aload_n 0, 1) := by decide +kernel
theorem dX9_dropAsk_14 : decode cX9_dropAsk 14 = .ok (.getfield 7, 3) := by decide +kernel
theorem dX9_dropAsk_17 : decode cX9_dropAsk 17 = .ok (.iconst 3, 1) := by decide +kernel
theorem dX9_dropAsk_18 : decode cX9_dropAsk 18 = .ok (.iaload, 1) := by decide +kernel
theorem dX9_dropAsk_19 : decode cX9_dropAsk 19 = .ok (.iconst 1, 1) := by decide +kernel
theorem dX9_dropAsk_20 : decode cX9_dropAsk 20 = .ok (.isub, 1) := by decide +kernel
theorem dX9_dropAsk_21 : decode cX9_dropAsk 21 = .ok (.imul, 1) := by decide +kernel
theorem dX9_dropAsk_22 : decode cX9_dropAsk 22 = .ok (.iadd, 1) := by decide +kernel
theorem dX9_dropAsk_23 : decode cX9_dropAsk 23 = .ok (.if_icmp .ge 23, 3) := by decide +kernel
theorem dX9_dropAsk_26 : decode cX9_dropAsk 26 = .ok (.aload_n 0, 1) := by decide +kernel
theorem dX9_dropAsk_27 : decode cX9_dropAsk 27 = .ok (.getfield 7, 3) := by decide +kernel
theorem dX9_dropAsk_30 : decode cX9_dropAsk 30 = .ok (.iload_n 2, 1) := by decide +kernel
theorem dX9_dropAsk_31 : decode cX9_dropAsk 31 = .ok (.aload_n 0, 1) := by decide +kernel
theorem dX9_dropAsk_32 : decode cX9_dropAsk 32 = .ok (.getfield 7, 3) := by decide +kernel
theorem dX9_dropAsk_35 : decode cX9_dropAsk 35 = .ok (.iload_n 2, 1) := by decide +kernel
theorem dX9_dropAsk_36 : decode cX9_dropAsk 36 = .ok (.iconst 4, 1) := by decide +kernel
theorem dX9_dropAsk_37 : decode cX9_dropAsk 37 = .ok (.iadd, 1) := by decide +kernel
theorem dX9_dropAsk_38 : decode cX9_dropAsk 38 = .ok (.iaload, 1) := by decide +kernel
theorem dX9_dropAsk_39 : decode cX9_dropAsk 39 = .ok (.iastore, 1) := by decide +kernel
theorem dX9_dropAsk_40 : decode cX9_dropAsk 40 = .ok (.iinc 2 1, 3) := by decide +kernel
theorem dX9_dropAsk_43 : decode cX9_dropAsk 43 = .ok (.goto (-35), 3) := by decide +kernel
theorem dX9_dropAsk_46 : decode cX9_dropAsk 46 = .ok (.aload_n 0, 1) := by decide +kernel
theorem dX9_dropAsk_47 : decode cX9_dropAsk 47 = .ok (.getfield 7, 3) := by decide +kernel
theorem dX9_dropAsk_50 : decode cX9_dropAsk 50 = .ok (.iconst 3, 1) := by decide +kernel
theorem dX9_dropAsk_51 : decode cX9_dropAsk 51 = .ok (.dup2, 1) := by decide +kernel
theorem dX9_dropAsk_52 : decode cX9_dropAsk 52 = .ok (.iaload, 1) := by decide +kernel
theorem dX9_dropAsk_53 : decode cX9_dropAsk 53 = .ok (.iconst 1, 1) := by decide +kernel
theorem dX9_dropAsk_54 : decode cX9_dropAsk 54 = .ok (.isub, 1) := by decide +kernel
theorem dX9_dropAsk_55 : decode cX9_dropAsk 55 = .ok (.iastore, 1) := by decide +kernel
theorem dX9_dropAsk_56 : decode cX9_dropAsk 56 = .ok (.return_, 1) := by decide +kernel
theorem dX9_dropBid_0 : decode cX9_dropBid 0 = .ok (.sipush 439, 3) := by decide +kernel
theorem dX9_dropBid_3 : decode cX9_dropBid 3 = .ok (.iconst 5, 1) := by decide +kernel
theorem dX9_dropBid_4 : decode cX9_dropBid 4 = .ok (.iload_n 1, 1) := by decide +kernel
theorem dX9_dropBid_5 : decode cX9_dropBid 5 = .ok (.imul, 1) := by decide +kernel
theorem dX9_dropBid_6 : decode cX9_dropBid 6 = .ok (.iadd, 1) := by decide +kernel
theorem dX9_dropBid_7 : decode cX9_dropBid 7 = .ok (.istore_n 2, 1) := by decide +kernel
theorem dX9_dropBid_8 : decode cX9_dropBid 8 = .ok (.iload_n 2, 1) := by decide +kernel
theorem dX9_dropBid_9 : decode cX9_dropBid 9 = .ok (.sipush 439, 3) := by decide +kernel
theorem dX9_dropBid_12 : decode cX9_dropBid 12 = .ok (.iconst 5, 1) := by decide +kernel
theorem dX9_dropBid_13 : decode cX9_dropBid 13 = .ok (.aload_n 0, 1) := by decide +kernel
theorem dX9_dropBid_14 : decode cX9_dropBid 14 = .ok (.getfield 7, 3) := by decide +kernel
theorem dX9_dropBid_17 : decode cX9_dropBid 17 = .ok (.iconst 4, 1) := by decide +kernel
theorem dX9_dropBid_18 : decode cX9_dropBid 18 = .ok (.iaload, 1) := by decide +kernel
theorem dX9_dropBid_19 : decode cX9_dropBid 19 = .ok (.iconst 1, 1) := by decide +kernel
theorem dX9_dropBid_20 : decode cX9_dropBid 20 = .ok (.isub, 1) := by decide +kernel
theorem dX9_dropBid_21 : decode cX9_dropBid 21 = .ok (.imul, 1) := by decide +kernel
theorem dX9_dropBid_22 : decode cX9_dropBid 22 = .ok (.iadd, 1) := by decide +kernel
theorem dX9_dropBid_23 : decode cX9_dropBid 23 = .ok (.if_icmp .ge 23, 3) := by decide +kernel
theorem dX9_dropBid_26 : decode cX9_dropBid 26 = .ok (.aload_n 0, 1) := by decide +kernel
theorem dX9_dropBid_27 : decode cX9_dropBid 27 = .ok (.getfield 7, 3) := by decide +kernel
theorem dX9_dropBid_30 : decode cX9_dropBid 30 = .ok (.iload_n 2, 1) := by decide +kernel
theorem dX9_dropBid_31 : decode cX9_dropBid 31 = .ok (.aload_n 0, 1) := by decide +kernel
theorem dX9_dropBid_32 : decode cX9_dropBid 32 = .ok (.getfield 7, 3) := by decide +kernel
theorem dX9_dropBid_35 : decode cX9_dropBid 35 = .ok (.iload_n 2, 1) := by decide +kernel
theorem dX9_dropBid_36 : decode cX9_dropBid 36 = .ok (.iconst 5, 1) := by decide +kernel
theorem dX9_dropBid_37 : decode cX9_dropBid 37 = .ok (.iadd, 1) := by decide +kernel
theorem dX9_dropBid_38 : decode cX9_dropBid 38 = .ok (.iaload, 1) := by decide +kernel
theorem dX9_dropBid_39 : decode cX9_dropBid 39 = .ok (.iastore, 1) := by decide +kernel
theorem dX9_dropBid_40 : decode cX9_dropBid 40 = .ok (.iinc 2 1, 3) := by decide +kernel
theorem dX9_dropBid_43 : decode cX9_dropBid 43 = .ok (.goto (-35), 3) := by decide +kernel
theorem dX9_dropBid_46 : decode cX9_dropBid 46 = .ok (.aload_n 0, 1) := by decide +kernel
theorem dX9_dropBid_47 : decode cX9_dropBid 47 = .ok (.getfield 7, 3) := by decide +kernel
theorem dX9_dropBid_50 : decode cX9_dropBid 50 = .ok (.iconst 4, 1) := by decide +kernel
theorem dX9_dropBid_51 : decode cX9_dropBid 51 = .ok (.dup2, 1) := by decide +kernel
theorem dX9_dropBid_52 : decode cX9_dropBid 52 = .ok (.iaload, 1) := by decide +kernel
theorem dX9_dropBid_53 : decode cX9_dropBid 53 = .ok (.iconst 1, 1) := by decide +kernel
theorem dX9_dropBid_54 : decode cX9_dropBid 54 = .ok (.isub, 1) := by decide +kernel
theorem dX9_dropBid_55 : decode cX9_dropBid 55 = .ok (.iastore, 1) := by decide +kernel
theorem dX9_dropBid_56 : decode cX9_dropBid 56 = .ok (.return_, 1) := by decide +kernel
theorem dX9_takeBack_0 : decode cX9_takeBack 0 = .ok (.iload_n 1, 1) := by decide +kernel
theorem dX9_takeBack_1 : decode cX9_takeBack 1 = .ok (.iconst 0, 1) := by decide +kernel
theorem dX9_takeBack_2 : decode cX9_takeBack 2 = .ok (.iconst 1, 1) := by decide +kernel
theorem dX9_takeBack_3 : decode cX9_takeBack 3 = .ok (.invokestatic 42, 3) := by decide +kernel
theorem dX9_takeBack_6 : decode cX9_takeBack 6 = .ok (.ifCond .ne 6, 3) := by decide +kernel
theorem dX9_takeBack_9 : decode cX9_takeBack 9 = .ok (.bipush (-2), 2) := by decide +kernel
theorem dX9_takeBack_11 : decode cX9_takeBack 11 = .ok (.ireturn, 1) := by decide +kernel
theorem dX9_takeBack_12 : decode cX9_takeBack 12 = .ok (.iload_n 2, 1) := by decide +kernel
theorem dX9_takeBack_13 : decode cX9_takeBack 13 = .ok (.iconst 0, 1) := by decide +kernel
theorem dX9_takeBack_14 : decode cX9_takeBack 14 = .ok (.aload_n 0, 1) := by decide +kernel
theorem dX9_takeBack_15 : decode cX9_takeBack 15 = .ok (.getfield 7, 3) := by decide +kernel
theorem dX9_takeBack_18 : decode cX9_takeBack 18 = .ok (.iconst 3, 1) := by decide +kernel
theorem dX9_takeBack_19 : decode cX9_takeBack 19 = .ok (.iload_n 1, 1) := by decide +kernel
theorem dX9_takeBack_20 : decode cX9_takeBack 20 = .ok (.iadd, 1) := by decide +kernel
theorem dX9_takeBack_21 : decode cX9_takeBack 21 = .ok (.iaload, 1) := by decide +kernel
theorem dX9_takeBack_22 : decode cX9_takeBack 22 = .ok (.iconst 1, 1) := by decide +kernel
theorem dX9_takeBack_23 : decode cX9_takeBack 23 = .ok (.isub, 1) := by decide +kernel
theorem dX9_takeBack_24 : decode cX9_takeBack 24 = .ok (.invokestatic 42, 3) := by decide +kernel
theorem dX9_takeBack_27 : decode cX9_takeBack 27 = .ok (.ifCond .ne 5, 3) := by decide +kernel
theorem dX9_takeBack_30 : decode cX9_takeBack 30 = .ok (.iconst (-1), 1) := by decide +kernel
theorem dX9_takeBack_31 : decode cX9_takeBack 31 = .ok (.ireturn, 1) := by decide +kernel
theorem dX9_takeBack_32 : decode cX9_takeBack 32 = .ok (.aload_n 0, 1) := by decide +kernel
theorem dX9_takeBack_33 : decode cX9_takeBack 33 = .ok (.invokevirtual 99, 3) := by decide +kernel
theorem dX9_takeBack_36 : decode cX9_takeBack 36 = .ok (.iload_n 1, 1) := by decide +kernel
theorem dX9_takeBack_37 : decode cX9_takeBack 37 = .ok (.ifCond .ne 11, 3) := by decide +kernel
theorem dX9_takeBack_40 : decode cX9_takeBack 40 = .ok (.aload_n 0, 1) := by decide +kernel
theorem dX9_takeBack_41 : decode cX9_takeBack 41 = .ok (.iload_n 2, 1) := by decide +kernel
theorem dX9_takeBack_42 : decode cX9_takeBack 42 = .ok (.invokevirtual 138, 3) := by decide +kernel
theorem dX9_takeBack_45 : decode cX9_takeBack 45 = .ok (.goto 8, 3) := by decide +kernel
theorem dX9_takeBack_48 : decode cX9_takeBack 48 = .ok (.aload_n 0, 1) := by decide +kernel
theorem dX9_takeBack_49 : decode cX9_takeBack 49 = .ok (.iload_n 2, 1) := by decide +kernel
theorem dX9_takeBack_50 : decode cX9_takeBack 50 = .ok (.invokevirtual 142, 3) := by decide +kernel
theorem dX9_takeBack_53 : decode cX9_takeBack 53 = .ok (.aload_n 0, 1) := by decide +kernel
theorem dX9_takeBack_54 : decode cX9_takeBack 54 = .ok (.getfield 7, 3) := by decide +kernel
theorem dX9_takeBack_57 : decode cX9_takeBack 57 = .ok (.iconst 3, 1) := by decide +kernel
theorem dX9_takeBack_58 : decode cX9_takeBack 58 = .ok (.iload_n 1, 1) := by decide +kernel
theorem dX9_takeBack_59 : decode cX9_takeBack 59 = .ok (.iadd, 1) := by decide +kernel
theorem dX9_takeBack_60 : decode cX9_takeBack 60 = .ok (.iaload, 1) := by decide +kernel
theorem dX9_takeBack_61 : decode cX9_takeBack 61 = .ok (.ireturn, 1) := by decide +kernel
theorem dX9_askPart_0 : decode cX9_askPart 0 = .ok (.aload_n 0, 1) := by decide +kernel
theorem dX9_askPart_1 : decode cX9_askPart 1 = .ok (.getfield 7, 3) := by decide +kernel
theorem dX9_askPart_4 : decode cX9_askPart 4 = .ok (.sipush 399, 3) := by decide +kernel
theorem dX9_askPart_7 : decode cX9_askPart 7 = .ok (.iconst 4, 1) := by decide +kernel
theorem dX9_askPart_8 : decode cX9_askPart 8 = .ok (.iload_n 1, 1) := by decide +kernel
theorem dX9_askPart_9 : decode cX9_askPart 9 = .ok (.imul, 1) := by decide +kernel
theorem dX9_askPart_10 : decode cX9_askPart 10 = .ok (.iadd, 1) := by decide +kernel
theorem dX9_askPart_11 : decode cX9_askPart 11 = .ok (.iload_n 2, 1) := by decide +kernel
theorem dX9_askPart_12 : decode cX9_askPart 12 = .ok (.iadd, 1) := by decide +kernel
theorem dX9_askPart_13 : decode cX9_askPart 13 = .ok (.iaload, 1) := by decide +kernel
theorem dX9_askPart_14 : decode cX9_askPart 14 = .ok (.ireturn, 1) := by decide +kernel
theorem dX9_bidPart_0 : decode cX9_bidPart 0 = .ok (.aload_n 0, 1) := by decide +kernel
theorem dX9_bidPart_1 : decode cX9_bidPart 1 = .ok (.getfield 7, 3) := by decide +kernel
theorem dX9_bidPart_4 : decode cX9_bidPart 4 = .ok (.sipush 439, 3) := by decide +kernel
theorem dX9_bidPart_7 : decode cX9_bidPart 7 = .ok (.iconst 5, 1) := by decide +kernel
theorem dX9_bidPart_8 : decode cX9_bidPart 8 = .ok (.iload_n 1, 1) := by decide +kernel
theorem dX9_bidPart_9 : decode cX9_bidPart 9 = .ok (.imul, 1) := by decide +kernel
theorem dX9_bidPart_10 : decode cX9_bidPart 10 = .ok (.iadd, 1) := by decide +kernel
theorem dX9_bidPart_11 : decode cX9_bidPart 11 = .ok (.iload_n 2, 1) := by decide +kernel
theorem dX9_bidPart_12 : decode cX9_bidPart 12 = .ok (.iadd, 1) := by decide +kernel
theorem dX9_bidPart_13 : decode cX9_bidPart 13 = .ok (.iaload, 1) := by decide +kernel
theorem dX9_bidPart_14 : decode cX9_bidPart 14 = .ok (.ireturn, 1) := by decide +kernel
theorem dX9_placeOfBid_0 : decode cX9_placeOfBid 0 = .ok (.iconst 0, 1) := by decide +kernel
theorem dX9_placeOfBid_1 : decode cX9_placeOfBid 1 = .ok (.istore_n 2, 1) := by decide +kernel
theorem dX9_placeOfBid_2 : decode cX9_placeOfBid 2 = .ok (.iconst 0, 1) := by decide +kernel
theorem dX9_placeOfBid_3 : decode cX9_placeOfBid 3 = .ok (.istore_n 3, 1) := by decide +kernel
theorem dX9_placeOfBid_4 : decode cX9_placeOfBid 4 = .ok (.iload_n 3, 1) := by decide +kernel
theorem dX9_placeOfBid_5 : decode cX9_placeOfBid 5 = .ok (.aload_n 0, 1) := by decide +kernel
theorem dX9_placeOfBid_6 : decode cX9_placeOfBid 6 = .ok (.getfield 7, 3) := by decide +kernel
theorem dX9_placeOfBid_9 : decode cX9_placeOfBid 9 = .ok (.iconst 4, 1) := by decide +kernel
theorem dX9_placeOfBid_10 : decode cX9_placeOfBid 10 = .ok (.iaload, 1) := by decide +kernel
theorem dX9_placeOfBid_11 : decode cX9_placeOfBid 11 = .ok (.if_icmp .ge 47, 3) := by decide +kernel
theorem dX9_placeOfBid_14 : decode cX9_placeOfBid 14 = .ok (.aload_n 0, 1) := by decide +kernel
theorem dX9_placeOfBid_15 : decode cX9_placeOfBid 15 = .ok (.iload_n 3, 1) := by decide +kernel
theorem dX9_placeOfBid_16 : decode cX9_placeOfBid 16 = .ok (.iconst 3, 1) := by decide +kernel
theorem dX9_placeOfBid_17 : decode cX9_placeOfBid 17 = .ok (.invokevirtual 145, 3) := by decide +kernel
theorem dX9_placeOfBid_20 : decode cX9_placeOfBid 20 = .ok (.aload_n 0, 1) := by decide +kernel
theorem dX9_placeOfBid_21 : decode cX9_placeOfBid 21 = .ok (.iload_n 1, 1) := by decide +kernel
theorem dX9_placeOfBid_22 : decode cX9_placeOfBid 22 = .ok (.iconst 3, 1) := by decide +kernel
theorem dX9_placeOfBid_23 : decode cX9_placeOfBid 23 = .ok (.invokevirtual 145, 3) := by decide +kernel
theorem dX9_placeOfBid_26 : decode cX9_placeOfBid 26 = .ok (.isub, 1) := by decide +kernel
theorem dX9_placeOfBid_27 : decode cX9_placeOfBid 27 = .ok (.istore 4, 2) := by decide +kernel
theorem dX9_placeOfBid_29 : decode cX9_placeOfBid 29 = .ok (.iload_n 2, 1) := by decide +kernel
theorem dX9_placeOfBid_30 : decode cX9_placeOfBid 30 = .ok (.iload 4, 2) := by decide +kernel
theorem dX9_placeOfBid_32 : decode cX9_placeOfBid 32 = .ok (.ifCond .gt 13, 3) := by decide +kernel
theorem dX9_placeOfBid_35 : decode cX9_placeOfBid 35 = .ok (.iload 4, 2) := by decide +kernel
theorem dX9_placeOfBid_37 : decode cX9_placeOfBid 37 = .ok (.ifCond .ne 12, 3) := by decide +kernel
theorem dX9_placeOfBid_40 : decode cX9_placeOfBid 40 = .ok (.iload_n 3, 1) := by decide +kernel
theorem dX9_placeOfBid_41 : decode cX9_placeOfBid 41 = .ok (.iload_n 1, 1) := by decide +kernel
theorem dX9_placeOfBid_42 : decode cX9_placeOfBid 42 = .ok (.if_icmp .ge 7, 3) := by decide +kernel
theorem dX9_placeOfBid_45 : decode cX9_placeOfBid 45 = .ok (.iconst 1, 1) := by decide +kernel
theorem dX9_placeOfBid_46 : decode cX9_placeOfBid 46 = .ok (.goto 4, 3) := by decide +kernel
theorem dX9_placeOfBid_49 : decode cX9_placeOfBid 49 = .ok (.iconst 0, 1) := by decide +kernel
theorem dX9_placeOfBid_50 : decode cX9_placeOfBid 50 = .ok (.iadd, 1) := by decide +kernel
theorem dX9_placeOfBid_51 : decode cX9_placeOfBid 51 = .ok (.istore_n 2, 1) := by decide +kernel
theorem dX9_placeOfBid_52 : decode cX9_placeOfBid 52 = .ok (.iinc 3 1, 3) := by decide +kernel
theorem dX9_placeOfBid_55 : decode cX9_placeOfBid 55 = .ok (.goto (-51), 3) := by decide +kernel
theorem dX9_placeOfBid_58 : decode cX9_placeOfBid 58 = .ok (.iload_n 2, 1) := by decide +kernel
theorem dX9_placeOfBid_59 : decode cX9_placeOfBid 59 = .ok (.ireturn, 1) := by decide +kernel
theorem dX9_nextAsk_0 : decode cX9_nextAsk 0 = .ok (.bipush (-6), 2) := by decide +kernel
theorem dX9_nextAsk_2 : decode cX9_nextAsk 2 = .ok (.istore_n 2, 1) := by decide +kernel
theorem dX9_nextAsk_3 : decode cX9_nextAsk 3 = .ok (.iconst 0, 1) := by decide +kernel
theorem dX9_nextAsk_4 : decode cX9_nextAsk 4 = .ok (.istore_n 3, 1) := by decide +kernel
theorem dX9_nextAsk_5 : decode cX9_nextAsk 5 = .ok (.iload_n 3, 1) := by decide +kernel
theorem dX9_nextAsk_6 : decode cX9_nextAsk 6 = .ok (.aload_n 0, 1) := by decide +kernel
theorem dX9_nextAsk_7 : decode cX9_nextAsk 7 = .ok (.getfield 7, 3) := by decide +kernel
theorem dX9_nextAsk_10 : decode cX9_nextAsk 10 = .ok (.iconst 3, 1) := by decide +kernel
theorem dX9_nextAsk_11 : decode cX9_nextAsk 11 = .ok (.iaload, 1) := by decide +kernel
theorem dX9_nextAsk_12 : decode cX9_nextAsk 12 = .ok (.if_icmp .ge 102, 3) := by decide +kernel
theorem dX9_nextAsk_15 : decode cX9_nextAsk 15 = .ok (.aload_n 0, 1) := by decide +kernel
theorem dX9_nextAsk_16 : decode cX9_nextAsk 16 = .ok (.iload_n 3, 1) := by decide +kernel
theorem dX9_nextAsk_17 : decode cX9_nextAsk 17 = .ok (.iconst 0, 1) := by decide +kernel
theorem dX9_nextAsk_18 : decode cX9_nextAsk 18 = .ok (.invokevirtual 148, 3) := by decide +kernel
theorem dX9_nextAsk_21 : decode cX9_nextAsk 21 = .ok (.aload_n 0, 1) := by decide +kernel
theorem dX9_nextAsk_22 : decode cX9_nextAsk 22 = .ok (.iload_n 1, 1) := by decide +kernel
theorem dX9_nextAsk_23 : decode cX9_nextAsk 23 = .ok (.iconst 0, 1) := by decide +kernel
theorem dX9_nextAsk_24 : decode cX9_nextAsk 24 = .ok (.invokevirtual 145, 3) := by decide +kernel
theorem dX9_nextAsk_27 : decode cX9_nextAsk 27 = .ok (.if_icmp .ne 46, 3) := by decide +kernel
theorem dX9_nextAsk_30 : decode cX9_nextAsk 30 = .ok (.aload_n 0, 1) := by decide +kernel
theorem dX9_nextAsk_31 : decode cX9_nextAsk 31 = .ok (.iload_n 3, 1) := by decide +kernel
theorem dX9_nextAsk_32 : decode cX9_nextAsk 32 = .ok (.iconst 1, 1) := by decide +kernel
theorem dX9_nextAsk_33 : decode cX9_nextAsk 33 = .ok (.invokevirtual 148, 3) := by decide +kernel
theorem dX9_nextAsk_36 : decode cX9_nextAsk 36 = .ok (.aload_n 0, 1) := by decide +kernel
theorem dX9_nextAsk_37 : decode cX9_nextAsk 37 = .ok (.iload_n 1, 1) := by decide +kernel
theorem dX9_nextAsk_38 : decode cX9_nextAsk 38 = .ok (.iconst 1, 1) := by decide +kernel
theorem dX9_nextAsk_39 : decode cX9_nextAsk 39 = .ok (.invokevirtual 145, 3) := by decide +kernel
theorem dX9_nextAsk_42 : decode cX9_nextAsk 42 = .ok (.if_icmp .ne 31, 3) := by decide +kernel
theorem dX9_nextAsk_45 : decode cX9_nextAsk 45 = .ok (.aload_n 0, 1) := by decide +kernel
theorem dX9_nextAsk_46 : decode cX9_nextAsk 46 = .ok (.iload_n 3, 1) := by decide +kernel
theorem dX9_nextAsk_47 : decode cX9_nextAsk 47 = .ok (.iconst 3, 1) := by decide +kernel
theorem dX9_nextAsk_48 : decode cX9_nextAsk 48 = .ok (.invokevirtual 148, 3) := by decide +kernel
theorem dX9_nextAsk_51 : decode cX9_nextAsk 51 = .ok (.aload_n 0, 1) := by decide +kernel
theorem dX9_nextAsk_52 : decode cX9_nextAsk 52 = .ok (.iload_n 1, 1) := by decide +kernel
theorem dX9_nextAsk_53 : decode cX9_nextAsk 53 = .ok (.iconst 3, 1) := by decide +kernel
theorem dX9_nextAsk_54 : decode cX9_nextAsk 54 = .ok (.invokevirtual 145, 3) := by decide +kernel
theorem dX9_nextAsk_57 : decode cX9_nextAsk 57 = .ok (.if_icmp .gt 16, 3) := by decide +kernel
theorem dX9_nextAsk_60 : decode cX9_nextAsk 60 = .ok (.aload_n 0, 1) := by decide +kernel
theorem dX9_nextAsk_61 : decode cX9_nextAsk 61 = .ok (.iload_n 3, 1) := by decide +kernel
theorem dX9_nextAsk_62 : decode cX9_nextAsk 62 = .ok (.iconst 2, 1) := by decide +kernel
theorem dX9_nextAsk_63 : decode cX9_nextAsk 63 = .ok (.invokevirtual 148, 3) := by decide +kernel
theorem dX9_nextAsk_66 : decode cX9_nextAsk 66 = .ok (.ifCond .le 7, 3) := by decide +kernel
theorem dX9_nextAsk_69 : decode cX9_nextAsk 69 = .ok (.iconst 1, 1) := by decide +kernel
theorem dX9_nextAsk_70 : decode cX9_nextAsk 70 = .ok (.goto 4, 3) := by decide +kernel
theorem dX9_nextAsk_73 : decode cX9_nextAsk 73 = .ok (.iconst 0, 1) := by decide +kernel
theorem dX9_nextAsk_74 : decode cX9_nextAsk 74 = .ok (.istore 4, 2) := by decide +kernel
theorem dX9_nextAsk_76 : decode cX9_nextAsk 76 = .ok (.iload 4, 2) := by decide +kernel
theorem dX9_nextAsk_78 : decode cX9_nextAsk 78 = .ok (.ifCond .eq 28, 3) := by decide +kernel
theorem dX9_nextAsk_81 : decode cX9_nextAsk 81 = .ok (.iload_n 2, 1) := by decide +kernel
theorem dX9_nextAsk_82 : decode cX9_nextAsk 82 = .ok (.bipush (-6), 2) := by decide +kernel
theorem dX9_nextAsk_84 : decode cX9_nextAsk 84 = .ok (.if_icmp .eq 18, 3) := by decide +kernel
theorem dX9_nextAsk_87 : decode cX9_nextAsk 87 = .ok (.aload_n 0, 1) := by decide +kernel
theorem dX9_nextAsk_88 : decode cX9_nextAsk 88 = .ok (.iload_n 3, 1) := by decide +kernel
theorem dX9_nextAsk_89 : decode cX9_nextAsk 89 = .ok (.iconst 3, 1) := by decide +kernel
theorem dX9_nextAsk_90 : decode cX9_nextAsk 90 = .ok (.invokevirtual 148, 3) := by decide +kernel
theorem dX9_nextAsk_93 : decode cX9_nextAsk 93 = .ok (.aload_n 0, 1) := by decide +kernel
theorem dX9_nextAsk_94 : decode cX9_nextAsk 94 = .ok (.iload_n 2, 1) := by decide +kernel
theorem dX9_nextAsk_95 : decode cX9_nextAsk 95 = .ok (.iconst 3, 1) := by decide +kernel
theorem dX9_nextAsk_96 : decode cX9_nextAsk 96 = .ok (.invokevirtual 148, 3) := by decide +kernel
theorem dX9_nextAsk_99 : decode cX9_nextAsk 99 = .ok (.if_icmp .ge 7, 3) := by decide +kernel
theorem dX9_nextAsk_102 : decode cX9_nextAsk 102 = .ok (.iload_n 3, 1) := by decide +kernel
theorem dX9_nextAsk_103 : decode cX9_nextAsk 103 = .ok (.goto 4, 3) := by decide +kernel
theorem dX9_nextAsk_106 : decode cX9_nextAsk 106 = .ok (.iload_n 2, 1) := by decide +kernel
theorem dX9_nextAsk_107 : decode cX9_nextAsk 107 = .ok (.istore_n 2, 1) := by decide +kernel
theorem dX9_nextAsk_108 : decode cX9_nextAsk 108 = .ok (.iinc 3 1, 3) := by decide +kernel
theorem dX9_nextAsk_111 : decode cX9_nextAsk 111 = .ok (.goto (-106), 3) := by decide +kernel
theorem dX9_nextAsk_114 : decode cX9_nextAsk 114 = .ok (.iload_n 2, 1) := by decide +kernel
theorem dX9_nextAsk_115 : decode cX9_nextAsk 115 = .ok (.ireturn, 1) := by decide +kernel
theorem dX9_tradedBy_0 : decode cX9_tradedBy 0 = .ok (.iconst 0, 1) := by decide +kernel
theorem dX9_tradedBy_1 : decode cX9_tradedBy 1 = .ok (.istore_n 2, 1) := by decide +kernel
theorem dX9_tradedBy_2 : decode cX9_tradedBy 2 = .ok (.aload_n 0, 1) := by decide +kernel
theorem dX9_tradedBy_3 : decode cX9_tradedBy 3 = .ok (.iload_n 1, 1) := by decide +kernel
theorem dX9_tradedBy_4 : decode cX9_tradedBy 4 = .ok (.iconst 4, 1) := by decide +kernel
theorem dX9_tradedBy_5 : decode cX9_tradedBy 5 = .ok (.invokevirtual 145, 3) := by decide +kernel
theorem dX9_tradedBy_8 : decode cX9_tradedBy 8 = .ok (.istore_n 3, 1) := by decide +kernel
theorem dX9_tradedBy_9 : decode cX9_tradedBy 9 = .ok (.aload_n 0, 1) := by decide +kernel
theorem dX9_tradedBy_10 : decode cX9_tradedBy 10 = .ok (.iload_n 1, 1) := by decide +kernel
theorem dX9_tradedBy_11 : decode cX9_tradedBy 11 = .ok (.iconst 0, 1) := by decide +kernel
theorem dX9_tradedBy_12 : decode cX9_tradedBy 12 = .ok (.invokevirtual 145, 3) := by decide +kernel
theorem dX9_tradedBy_15 : decode cX9_tradedBy 15 = .ok (.istore 4, 2) := by decide +kernel
theorem dX9_tradedBy_17 : decode cX9_tradedBy 17 = .ok (.aload_n 0, 1) := by decide +kernel
theorem dX9_tradedBy_18 : decode cX9_tradedBy 18 = .ok (.iload_n 1, 1) := by decide +kernel
theorem dX9_tradedBy_19 : decode cX9_tradedBy 19 = .ok (.iconst 1, 1) := by decide +kernel
theorem dX9_tradedBy_20 : decode cX9_tradedBy 20 = .ok (.invokevirtual 145, 3) := by decide +kernel
theorem dX9_tradedBy_23 : decode cX9_tradedBy 23 = .ok (.istore 5, 2) := by decide +kernel
theorem dX9_tradedBy_25 : decode cX9_tradedBy 25 = .ok (.aload_n 0, 1) := by decide +kernel
theorem dX9_tradedBy_26 : decode cX9_tradedBy 26 = .ok (.iload_n 1, 1) := by decide +kernel
theorem dX9_tradedBy_27 : decode cX9_tradedBy 27 = .ok (.invokevirtual 151, 3) := by decide +kernel
theorem dX9_tradedBy_30 : decode cX9_tradedBy 30 = .ok (.istore 6, 2) := by decide +kernel
theorem dX9_tradedBy_32 : decode cX9_tradedBy 32 = .ok (.sipush 999, 3) := by decide +kernel
theorem dX9_tradedBy_35 : decode cX9_tradedBy 35 = .ok (.aload_n 0, 1) := by decide +kernel
theorem dX9_tradedBy_36 : decode cX9_tradedBy 36 = .ok (.iload_n 3, 1) := by decide +kernel
theorem dX9_tradedBy_37 : decode cX9_tradedBy 37 = .ok (.iload 4, 2) := by decide +kernel
theorem dX9_tradedBy_39 : decode cX9_tradedBy 39 = .ok (.iload 5, 2) := by decide +kernel
theorem dX9_tradedBy_41 : decode cX9_tradedBy 41 = .ok (.invokevirtual 58, 3) := by decide +kernel
theorem dX9_tradedBy_44 : decode cX9_tradedBy 44 = .ok (.isub, 1) := by decide +kernel
theorem dX9_tradedBy_45 : decode cX9_tradedBy 45 = .ok (.istore 7, 2) := by decide +kernel
theorem dX9_tradedBy_47 : decode cX9_tradedBy 47 = .ok (.iload 6, 2) := by decide +kernel
theorem dX9_tradedBy_49 : decode cX9_tradedBy 49 = .ok (.bipush (-6), 2) := by decide +kernel
theorem dX9_tradedBy_51 : decode cX9_tradedBy 51 = .ok (.if_icmp .eq 177, 3) := by decide +kernel
theorem dX9_tradedBy_54 : decode cX9_tradedBy 54 = .ok (.iload 7, 2) := by decide +kernel
theorem dX9_tradedBy_56 : decode cX9_tradedBy 56 = .ok (.ifCond .le 172, 3) := by decide +kernel
theorem dX9_tradedBy_59 : decode cX9_tradedBy 59 = .ok (.aload_n 0, 1) := by decide +kernel
theorem dX9_tradedBy_60 : decode cX9_tradedBy 60 = .ok (.iload_n 1, 1) := by decide +kernel
theorem dX9_tradedBy_61 : decode cX9_tradedBy 61 = .ok (.iconst 2, 1) := by decide +kernel
theorem dX9_tradedBy_62 : decode cX9_tradedBy 62 = .ok (.invokevirtual 145, 3) := by decide +kernel
theorem dX9_tradedBy_65 : decode cX9_tradedBy 65 = .ok (.ifCond .le 163, 3) := by decide +kernel
theorem dX9_tradedBy_68 : decode cX9_tradedBy 68 = .ok (.aload_n 0, 1) := by decide +kernel
theorem dX9_tradedBy_69 : decode cX9_tradedBy 69 = .ok (.iload 6, 2) := by decide +kernel
theorem dX9_tradedBy_71 : decode cX9_tradedBy 71 = .ok (.iconst 2, 1) := by decide +kernel
theorem dX9_tradedBy_72 : decode cX9_tradedBy 72 = .ok (.invokevirtual 148, 3) := by decide +kernel
theorem dX9_tradedBy_75 : decode cX9_tradedBy 75 = .ok (.aload_n 0, 1) := by decide +kernel
theorem dX9_tradedBy_76 : decode cX9_tradedBy 76 = .ok (.iload_n 1, 1) := by decide +kernel
theorem dX9_tradedBy_77 : decode cX9_tradedBy 77 = .ok (.iconst 2, 1) := by decide +kernel
theorem dX9_tradedBy_78 : decode cX9_tradedBy 78 = .ok (.invokevirtual 145, 3) := by decide +kernel
theorem dX9_tradedBy_81 : decode cX9_tradedBy 81 = .ok (.if_icmp .ge 13, 3) := by decide +kernel
theorem dX9_tradedBy_84 : decode cX9_tradedBy 84 = .ok (.aload_n 0, 1) := by decide +kernel
theorem dX9_tradedBy_85 : decode cX9_tradedBy 85 = .ok (.iload 6, 2) := by decide +kernel
theorem dX9_tradedBy_87 : decode cX9_tradedBy 87 = .ok (.iconst 2, 1) := by decide +kernel
theorem dX9_tradedBy_88 : decode cX9_tradedBy 88 = .ok (.invokevirtual 148, 3) := by decide +kernel
theorem dX9_tradedBy_91 : decode cX9_tradedBy 91 = .ok (.goto 9, 3) := by decide +kernel
theorem dX9_tradedBy_94 : decode cX9_tradedBy 94 = .ok (.aload_n 0, 1) := by decide +kernel
theorem dX9_tradedBy_95 : decode cX9_tradedBy 95 = .ok (.iload_n 1, 1) := by decide +kernel
theorem dX9_tradedBy_96 : decode cX9_tradedBy 96 = .ok (.iconst 2, 1) := by decide +kernel
theorem dX9_tradedBy_97 : decode cX9_tradedBy 97 = .ok (.invokevirtual 145, 3) := by decide +kernel
theorem dX9_tradedBy_100 : decode cX9_tradedBy 100 = .ok (.istore 8, 2) := by decide +kernel
theorem dX9_tradedBy_102 : decode cX9_tradedBy 102 = .ok (.iload 8, 2) := by decide +kernel
theorem dX9_tradedBy_104 : decode cX9_tradedBy 104 = .ok (.iload 7, 2) := by decide +kernel
theorem dX9_tradedBy_106 : decode cX9_tradedBy 106 = .ok (.if_icmp .ge 8, 3) := by decide +kernel
theorem dX9_tradedBy_109 : decode cX9_tradedBy 109 = .ok (.iload 8, 2) := by decide +kernel
theorem dX9_tradedBy_111 : decode cX9_tradedBy 111 = .ok (.goto 5, 3) := by decide +kernel
theorem dX9_tradedBy_114 : decode cX9_tradedBy 114 = .ok (.iload 7, 2) := by decide +kernel
theorem dX9_tradedBy_116 : decode cX9_tradedBy 116 = .ok (.istore 8, 2) := by decide +kernel
theorem dX9_tradedBy_118 : decode cX9_tradedBy 118 = .ok (.iload 8, 2) := by decide +kernel
theorem dX9_tradedBy_120 : decode cX9_tradedBy 120 = .ok (.aload_n 0, 1) := by decide +kernel
theorem dX9_tradedBy_121 : decode cX9_tradedBy 121 = .ok (.iload 6, 2) := by decide +kernel
theorem dX9_tradedBy_123 : decode cX9_tradedBy 123 = .ok (.iconst 3, 1) := by decide +kernel
theorem dX9_tradedBy_124 : decode cX9_tradedBy 124 = .ok (.invokevirtual 148, 3) := by decide +kernel
theorem dX9_tradedBy_127 : decode cX9_tradedBy 127 = .ok (.imul, 1) := by decide +kernel
theorem dX9_tradedBy_128 : decode cX9_tradedBy 128 = .ok (.istore 9, 2) := by decide +kernel
theorem dX9_tradedBy_130 : decode cX9_tradedBy 130 = .ok (.aload_n 0, 1) := by decide +kernel
theorem dX9_tradedBy_131 : decode cX9_tradedBy 131 = .ok (.getfield 7, 3) := by decide +kernel
theorem dX9_tradedBy_134 : decode cX9_tradedBy 134 = .ok (.sipush 399, 3) := by decide +kernel
theorem dX9_tradedBy_137 : decode cX9_tradedBy 137 = .ok (.iconst 4, 1) := by decide +kernel
theorem dX9_tradedBy_138 : decode cX9_tradedBy 138 = .ok (.iload 6, 2) := by decide +kernel
theorem dX9_tradedBy_140 : decode cX9_tradedBy 140 = .ok (.imul, 1) := by decide +kernel
theorem dX9_tradedBy_141 : decode cX9_tradedBy 141 = .ok (.iadd, 1) := by decide +kernel
theorem dX9_tradedBy_142 : decode cX9_tradedBy 142 = .ok (.iconst 2, 1) := by decide +kernel
theorem dX9_tradedBy_143 : decode cX9_tradedBy 143 = .ok (.iadd, 1) := by decide +kernel
theorem dX9_tradedBy_144 : decode cX9_tradedBy 144 = .ok (.dup2, 1) := by decide +kernel
theorem dX9_tradedBy_145 : decode cX9_tradedBy 145 = .ok (.iaload, 1) := by decide +kernel
theorem dX9_tradedBy_146 : decode cX9_tradedBy 146 = .ok (.iload 8, 2) := by decide +kernel
theorem dX9_tradedBy_148 : decode cX9_tradedBy 148 = .ok (.isub, 1) := by decide +kernel
theorem dX9_tradedBy_149 : decode cX9_tradedBy 149 = .ok (.iastore, 1) := by decide +kernel
theorem dX9_tradedBy_150 : decode cX9_tradedBy 150 = .ok (.aload_n 0, 1) := by decide +kernel
theorem dX9_tradedBy_151 : decode cX9_tradedBy 151 = .ok (.getfield 7, 3) := by decide +kernel
theorem dX9_tradedBy_154 : decode cX9_tradedBy 154 = .ok (.sipush 439, 3) := by decide +kernel
theorem dX9_tradedBy_157 : decode cX9_tradedBy 157 = .ok (.iconst 5, 1) := by decide +kernel
theorem dX9_tradedBy_158 : decode cX9_tradedBy 158 = .ok (.iload_n 1, 1) := by decide +kernel
theorem dX9_tradedBy_159 : decode cX9_tradedBy 159 = .ok (.imul, 1) := by decide +kernel
theorem dX9_tradedBy_160 : decode cX9_tradedBy 160 = .ok (.iadd, 1) := by decide +kernel
theorem dX9_tradedBy_161 : decode cX9_tradedBy 161 = .ok (.iconst 2, 1) := by decide +kernel
theorem dX9_tradedBy_162 : decode cX9_tradedBy 162 = .ok (.iadd, 1) := by decide +kernel
theorem dX9_tradedBy_163 : decode cX9_tradedBy 163 = .ok (.dup2, 1) := by decide +kernel
theorem dX9_tradedBy_164 : decode cX9_tradedBy 164 = .ok (.iaload, 1) := by decide +kernel
theorem dX9_tradedBy_165 : decode cX9_tradedBy 165 = .ok (.iload 8, 2) := by decide +kernel
theorem dX9_tradedBy_167 : decode cX9_tradedBy 167 = .ok (.isub, 1) := by decide +kernel
theorem dX9_tradedBy_168 : decode cX9_tradedBy 168 = .ok (.iastore, 1) := by decide +kernel
theorem dX9_tradedBy_169 : decode cX9_tradedBy 169 = .ok (.aload_n 0, 1) := by decide +kernel
theorem dX9_tradedBy_170 : decode cX9_tradedBy 170 = .ok (.getfield 7, 3) := by decide +kernel
theorem dX9_tradedBy_173 : decode cX9_tradedBy 173 = .ok (.bipush 15, 2) := by decide +kernel
theorem dX9_tradedBy_175 : decode cX9_tradedBy 175 = .ok (.iconst 4, 1) := by decide +kernel
theorem dX9_tradedBy_176 : decode cX9_tradedBy 176 = .ok (.iload_n 3, 1) := by decide +kernel
theorem dX9_tradedBy_177 : decode cX9_tradedBy 177 = .ok (.imul, 1) := by decide +kernel
theorem dX9_tradedBy_178 : decode cX9_tradedBy 178 = .ok (.iadd, 1) := by decide +kernel
theorem dX9_tradedBy_179 : decode cX9_tradedBy 179 = .ok (.iconst 3, 1) := by decide +kernel
theorem dX9_tradedBy_180 : decode cX9_tradedBy 180 = .ok (.iadd, 1) := by decide +kernel
theorem dX9_tradedBy_181 : decode cX9_tradedBy 181 = .ok (.dup2, 1) := by decide +kernel
theorem dX9_tradedBy_182 : decode cX9_tradedBy 182 = .ok (.iaload, 1) := by decide +kernel
theorem dX9_tradedBy_183 : decode cX9_tradedBy 183 = .ok (.iload 9, 2) := by decide +kernel
theorem dX9_tradedBy_185 : decode cX9_tradedBy 185 = .ok (.isub, 1) := by decide +kernel
theorem dX9_tradedBy_186 : decode cX9_tradedBy 186 = .ok (.iastore, 1) := by decide +kernel
theorem dX9_tradedBy_187 : decode cX9_tradedBy 187 = .ok (.aload_n 0, 1) := by decide +kernel
theorem dX9_tradedBy_188 : decode cX9_tradedBy 188 = .ok (.getfield 7, 3) := by decide +kernel
theorem dX9_tradedBy_191 : decode cX9_tradedBy 191 = .ok (.bipush 15, 2) := by decide +kernel
theorem dX9_tradedBy_193 : decode cX9_tradedBy 193 = .ok (.iconst 4, 1) := by decide +kernel
theorem dX9_tradedBy_194 : decode cX9_tradedBy 194 = .ok (.iload 4, 2) := by decide +kernel
theorem dX9_tradedBy_196 : decode cX9_tradedBy 196 = .ok (.imul, 1) := by decide +kernel
theorem dX9_tradedBy_197 : decode cX9_tradedBy 197 = .ok (.iadd, 1) := by decide +kernel
theorem dX9_tradedBy_198 : decode cX9_tradedBy 198 = .ok (.iconst 3, 1) := by decide +kernel
theorem dX9_tradedBy_199 : decode cX9_tradedBy 199 = .ok (.iadd, 1) := by decide +kernel
theorem dX9_tradedBy_200 : decode cX9_tradedBy 200 = .ok (.dup2, 1) := by decide +kernel
theorem dX9_tradedBy_201 : decode cX9_tradedBy 201 = .ok (.iaload, 1) := by decide +kernel
theorem dX9_tradedBy_202 : decode cX9_tradedBy 202 = .ok (.iload 9, 2) := by decide +kernel
theorem dX9_tradedBy_204 : decode cX9_tradedBy 204 = .ok (.iadd, 1) := by decide +kernel
theorem dX9_tradedBy_205 : decode cX9_tradedBy 205 = .ok (.iastore, 1) := by decide +kernel
theorem dX9_tradedBy_206 : decode cX9_tradedBy 206 = .ok (.iload 7, 2) := by decide +kernel
theorem dX9_tradedBy_208 : decode cX9_tradedBy 208 = .ok (.iload 8, 2) := by decide +kernel
theorem dX9_tradedBy_210 : decode cX9_tradedBy 210 = .ok (.isub, 1) := by decide +kernel
theorem dX9_tradedBy_211 : decode cX9_tradedBy 211 = .ok (.istore 7, 2) := by decide +kernel
theorem dX9_tradedBy_213 : decode cX9_tradedBy 213 = .ok (.iload_n 2, 1) := by decide +kernel
theorem dX9_tradedBy_214 : decode cX9_tradedBy 214 = .ok (.iload 8, 2) := by decide +kernel
theorem dX9_tradedBy_216 : decode cX9_tradedBy 216 = .ok (.iadd, 1) := by decide +kernel
theorem dX9_tradedBy_217 : decode cX9_tradedBy 217 = .ok (.istore_n 2, 1) := by decide +kernel
theorem dX9_tradedBy_218 : decode cX9_tradedBy 218 = .ok (.aload_n 0, 1) := by decide +kernel
theorem dX9_tradedBy_219 : decode cX9_tradedBy 219 = .ok (.iload_n 1, 1) := by decide +kernel
theorem dX9_tradedBy_220 : decode cX9_tradedBy 220 = .ok (.invokevirtual 151, 3) := by decide +kernel
theorem dX9_tradedBy_223 : decode cX9_tradedBy 223 = .ok (.istore 6, 2) := by decide +kernel
theorem dX9_tradedBy_225 : decode cX9_tradedBy 225 = .ok (.goto (-178), 3) := by decide +kernel
theorem dX9_tradedBy_228 : decode cX9_tradedBy 228 = .ok (.aload_n 0, 1) := by decide +kernel
theorem dX9_tradedBy_229 : decode cX9_tradedBy 229 = .ok (.iload_n 3, 1) := by decide +kernel
theorem dX9_tradedBy_230 : decode cX9_tradedBy 230 = .ok (.iload 4, 2) := by decide +kernel
theorem dX9_tradedBy_232 : decode cX9_tradedBy 232 = .ok (.iload 5, 2) := by decide +kernel
theorem dX9_tradedBy_234 : decode cX9_tradedBy 234 = .ok (.sipush 999, 3) := by decide +kernel
theorem dX9_tradedBy_237 : decode cX9_tradedBy 237 = .ok (.iload 7, 2) := by decide +kernel
theorem dX9_tradedBy_239 : decode cX9_tradedBy 239 = .ok (.isub, 1) := by decide +kernel
theorem dX9_tradedBy_240 : decode cX9_tradedBy 240 = .ok (.invokevirtual 117, 3) := by decide +kernel
theorem dX9_tradedBy_243 : decode cX9_tradedBy 243 = .ok (.iload_n 2, 1) := by decide +kernel
theorem dX9_tradedBy_244 : decode cX9_tradedBy 244 = .ok (.ireturn, 1) := by decide +kernel
theorem dX9_matched_0 : decode cX9_matched 0 = .ok (.iconst 0, 1) := by decide +kernel
theorem dX9_matched_1 : decode cX9_matched 1 = .ok (.istore_n 1, 1) := by decide +kernel
theorem dX9_matched_2 : decode cX9_matched 2 = .ok (.iconst 0, 1) := by decide +kernel
theorem dX9_matched_3 : decode cX9_matched 3 = .ok (.istore_n 2, 1) := by decide +kernel
theorem dX9_matched_4 : decode cX9_matched 4 = .ok (.iload_n 2, 1) := by decide +kernel
theorem dX9_matched_5 : decode cX9_matched 5 = .ok (.aload_n 0, 1) := by decide +kernel
theorem dX9_matched_6 : decode cX9_matched 6 = .ok (.getfield 7, 3) := by decide +kernel
theorem dX9_matched_9 : decode cX9_matched 9 = .ok (.iconst 4, 1) := by decide +kernel
theorem dX9_matched_10 : decode cX9_matched 10 = .ok (.iaload, 1) := by decide +kernel
theorem dX9_matched_11 : decode cX9_matched 11 = .ok (.if_icmp .ge 48, 3) := by decide +kernel
theorem dX9_matched_14 : decode cX9_matched 14 = .ok (.iconst 0, 1) := by decide +kernel
theorem dX9_matched_15 : decode cX9_matched 15 = .ok (.istore_n 3, 1) := by decide +kernel
theorem dX9_matched_16 : decode cX9_matched 16 = .ok (.iload_n 3, 1) := by decide +kernel
theorem dX9_matched_17 : decode cX9_matched 17 = .ok (.aload_n 0, 1) := by decide +kernel
theorem dX9_matched_18 : decode cX9_matched 18 = .ok (.getfield 7, 3) := by decide +kernel
theorem dX9_matched_21 : decode cX9_matched 21 = .ok (.iconst 4, 1) := by decide +kernel
theorem dX9_matched_22 : decode cX9_matched 22 = .ok (.iaload, 1) := by decide +kernel
theorem dX9_matched_23 : decode cX9_matched 23 = .ok (.if_icmp .ge 30, 3) := by decide +kernel
theorem dX9_matched_26 : decode cX9_matched 26 = .ok (.iload_n 1, 1) := by decide +kernel
theorem dX9_matched_27 : decode cX9_matched 27 = .ok (.aload_n 0, 1) := by decide +kernel
theorem dX9_matched_28 : decode cX9_matched 28 = .ok (.iload_n 3, 1) := by decide +kernel
theorem dX9_matched_29 : decode cX9_matched 29 = .ok (.invokevirtual 154, 3) := by decide +kernel
theorem dX9_matched_32 : decode cX9_matched 32 = .ok (.iload_n 2, 1) := by decide +kernel
theorem dX9_matched_33 : decode cX9_matched 33 = .ok (.if_icmp .ne 11, 3) := by decide +kernel
theorem dX9_matched_36 : decode cX9_matched 36 = .ok (.aload_n 0, 1) := by decide +kernel
theorem dX9_matched_37 : decode cX9_matched 37 = .ok (.iload_n 3, 1) := by decide +kernel
theorem dX9_matched_38 : decode cX9_matched 38 = .ok (.invokevirtual 157, 3) := by decide +kernel
theorem dX9_matched_41 : decode cX9_matched 41 = .ok (.goto 4, 3) := by decide +kernel
theorem dX9_matched_44 : decode cX9_matched 44 = .ok (.iconst 0, 1) := by decide +kernel
theorem dX9_matched_45 : decode cX9_matched 45 = .ok (.iadd, 1) := by decide +kernel
theorem dX9_matched_46 : decode cX9_matched 46 = .ok (.istore_n 1, 1) := by decide +kernel
theorem dX9_matched_47 : decode cX9_matched 47 = .ok (.iinc 3 1, 3) := by decide +kernel
theorem dX9_matched_50 : decode cX9_matched 50 = .ok (.goto (-34), 3) := by decide +kernel
theorem dX9_matched_53 : decode cX9_matched 53 = .ok (.iinc 2 1, 3) := by decide +kernel
theorem dX9_matched_56 : decode cX9_matched 56 = .ok (.goto (-52), 3) := by decide +kernel
theorem dX9_matched_59 : decode cX9_matched 59 = .ok (.aload_n 0, 1) := by decide +kernel
theorem dX9_matched_60 : decode cX9_matched 60 = .ok (.getfield 7, 3) := by decide +kernel
theorem dX9_matched_63 : decode cX9_matched 63 = .ok (.iconst 4, 1) := by decide +kernel
theorem dX9_matched_64 : decode cX9_matched 64 = .ok (.iaload, 1) := by decide +kernel
theorem dX9_matched_65 : decode cX9_matched 65 = .ok (.iconst 1, 1) := by decide +kernel
theorem dX9_matched_66 : decode cX9_matched 66 = .ok (.isub, 1) := by decide +kernel
theorem dX9_matched_67 : decode cX9_matched 67 = .ok (.istore_n 2, 1) := by decide +kernel
theorem dX9_matched_68 : decode cX9_matched 68 = .ok (.iload_n 2, 1) := by decide +kernel
theorem dX9_matched_69 : decode cX9_matched 69 = .ok (.ifCond .lt 23, 3) := by decide +kernel
theorem dX9_matched_72 : decode cX9_matched 72 = .ok (.aload_n 0, 1) := by decide +kernel
theorem dX9_matched_73 : decode cX9_matched 73 = .ok (.iload_n 2, 1) := by decide +kernel
theorem dX9_matched_74 : decode cX9_matched 74 = .ok (.iconst 2, 1) := by decide +kernel
theorem dX9_matched_75 : decode cX9_matched 75 = .ok (.invokevirtual 145, 3) := by decide +kernel
theorem dX9_matched_78 : decode cX9_matched 78 = .ok (.ifCond .ne 8, 3) := by decide +kernel
theorem dX9_matched_81 : decode cX9_matched 81 = .ok (.aload_n 0, 1) := by decide +kernel
theorem dX9_matched_82 : decode cX9_matched 82 = .ok (.iload_n 2, 1) := by decide +kernel
theorem dX9_matched_83 : decode cX9_matched 83 = .ok (.invokevirtual 142, 3) := by decide +kernel
theorem dX9_matched_86 : decode cX9_matched 86 = .ok (.iinc 2 (-1), 3) := by decide +kernel
theorem dX9_matched_89 : decode cX9_matched 89 = .ok (.goto (-21), 3) := by decide +kernel
theorem dX9_matched_92 : decode cX9_matched 92 = .ok (.aload_n 0, 1) := by decide +kernel
theorem dX9_matched_93 : decode cX9_matched 93 = .ok (.getfield 7, 3) := by decide +kernel
theorem dX9_matched_96 : decode cX9_matched 96 = .ok (.iconst 3, 1) := by decide +kernel
theorem dX9_matched_97 : decode cX9_matched 97 = .ok (.iaload, 1) := by decide +kernel
theorem dX9_matched_98 : decode cX9_matched 98 = .ok (.iconst 1, 1) := by decide +kernel
theorem dX9_matched_99 : decode cX9_matched 99 = .ok (.isub, 1) := by decide +kernel
theorem dX9_matched_100 : decode cX9_matched 100 = .ok (.istore_n 2, 1) := by decide +kernel
theorem dX9_matched_101 : decode cX9_matched 101 = .ok (.iload_n 2, 1) := by decide +kernel
theorem dX9_matched_102 : decode cX9_matched 102 = .ok (.ifCond .lt 23, 3) := by decide +kernel
theorem dX9_matched_105 : decode cX9_matched 105 = .ok (.aload_n 0, 1) := by decide +kernel
theorem dX9_matched_106 : decode cX9_matched 106 = .ok (.iload_n 2, 1) := by decide +kernel
theorem dX9_matched_107 : decode cX9_matched 107 = .ok (.iconst 2, 1) := by decide +kernel
theorem dX9_matched_108 : decode cX9_matched 108 = .ok (.invokevirtual 148, 3) := by decide +kernel
theorem dX9_matched_111 : decode cX9_matched 111 = .ok (.ifCond .ne 8, 3) := by decide +kernel
theorem dX9_matched_114 : decode cX9_matched 114 = .ok (.aload_n 0, 1) := by decide +kernel
theorem dX9_matched_115 : decode cX9_matched 115 = .ok (.iload_n 2, 1) := by decide +kernel
theorem dX9_matched_116 : decode cX9_matched 116 = .ok (.invokevirtual 138, 3) := by decide +kernel
theorem dX9_matched_119 : decode cX9_matched 119 = .ok (.iinc 2 (-1), 3) := by decide +kernel
theorem dX9_matched_122 : decode cX9_matched 122 = .ok (.goto (-21), 3) := by decide +kernel
theorem dX9_matched_125 : decode cX9_matched 125 = .ok (.aload_n 0, 1) := by decide +kernel
theorem dX9_matched_126 : decode cX9_matched 126 = .ok (.getfield 7, 3) := by decide +kernel
theorem dX9_matched_129 : decode cX9_matched 129 = .ok (.iconst 2, 1) := by decide +kernel
theorem dX9_matched_130 : decode cX9_matched 130 = .ok (.dup2, 1) := by decide +kernel
theorem dX9_matched_131 : decode cX9_matched 131 = .ok (.iaload, 1) := by decide +kernel
theorem dX9_matched_132 : decode cX9_matched 132 = .ok (.iload_n 1, 1) := by decide +kernel
theorem dX9_matched_133 : decode cX9_matched 133 = .ok (.iadd, 1) := by decide +kernel
theorem dX9_matched_134 : decode cX9_matched 134 = .ok (.iastore, 1) := by decide +kernel
theorem dX9_matched_135 : decode cX9_matched 135 = .ok (.iload_n 1, 1) := by decide +kernel
theorem dX9_matched_136 : decode cX9_matched 136 = .ok (.ireturn, 1) := by decide +kernel
theorem dX9_match_0 : decode cX9_match 0 = .ok (.aload_n 0, 1) := by decide +kernel
theorem dX9_match_1 : decode cX9_match 1 = .ok (.invokevirtual 99, 3) := by decide +kernel
theorem dX9_match_4 : decode cX9_match 4 = .ok (.aload_n 0, 1) := by decide +kernel
theorem dX9_match_5 : decode cX9_match 5 = .ok (.invokevirtual 160, 3) := by decide +kernel
theorem dX9_match_8 : decode cX9_match 8 = .ok (.ireturn, 1) := by decide +kernel
theorem dX9_fullYield_0 : decode cX9_fullYield 0 = .ok (.iconst 0, 1) := by decide +kernel
theorem dX9_fullYield_1 : decode cX9_fullYield 1 = .ok (.istore_n 2, 1) := by decide +kernel
theorem dX9_fullYield_2 : decode cX9_fullYield 2 = .ok (.iconst 0, 1) := by decide +kernel
theorem dX9_fullYield_3 : decode cX9_fullYield 3 = .ok (.istore_n 3, 1) := by decide +kernel
theorem dX9_fullYield_4 : decode cX9_fullYield 4 = .ok (.iload_n 3, 1) := by decide +kernel
theorem dX9_fullYield_5 : decode cX9_fullYield 5 = .ok (.bipush 10, 2) := by decide +kernel
theorem dX9_fullYield_7 : decode cX9_fullYield 7 = .ok (.if_icmp .ge 30, 3) := by decide +kernel
theorem dX9_fullYield_10 : decode cX9_fullYield 10 = .ok (.iload_n 2, 1) := by decide +kernel
theorem dX9_fullYield_11 : decode cX9_fullYield 11 = .ok (.aload_n 0, 1) := by decide +kernel
theorem dX9_fullYield_12 : decode cX9_fullYield 12 = .ok (.iload_n 1, 1) := by decide +kernel
theorem dX9_fullYield_13 : decode cX9_fullYield 13 = .ok (.iload_n 3, 1) := by decide +kernel
theorem dX9_fullYield_14 : decode cX9_fullYield 14 = .ok (.invokevirtual 81, 3) := by decide +kernel
theorem dX9_fullYield_17 : decode cX9_fullYield 17 = .ok (.iload_n 3, 1) := by decide +kernel
theorem dX9_fullYield_18 : decode cX9_fullYield 18 = .ok (.invokestatic 87, 3) := by decide +kernel
theorem dX9_fullYield_21 : decode cX9_fullYield 21 = .ok (.imul, 1) := by decide +kernel
theorem dX9_fullYield_22 : decode cX9_fullYield 22 = .ok (.aload_n 0, 1) := by decide +kernel
theorem dX9_fullYield_23 : decode cX9_fullYield 23 = .ok (.iload_n 1, 1) := by decide +kernel
theorem dX9_fullYield_24 : decode cX9_fullYield 24 = .ok (.iconst 1, 1) := by decide +kernel
theorem dX9_fullYield_25 : decode cX9_fullYield 25 = .ok (.invokevirtual 46, 3) := by decide +kernel
theorem dX9_fullYield_28 : decode cX9_fullYield 28 = .ok (.iadd, 1) := by decide +kernel
theorem dX9_fullYield_29 : decode cX9_fullYield 29 = .ok (.iadd, 1) := by decide +kernel
theorem dX9_fullYield_30 : decode cX9_fullYield 30 = .ok (.istore_n 2, 1) := by decide +kernel
theorem dX9_fullYield_31 : decode cX9_fullYield 31 = .ok (.iinc 3 1, 3) := by decide +kernel
theorem dX9_fullYield_34 : decode cX9_fullYield 34 = .ok (.goto (-30), 3) := by decide +kernel
theorem dX9_fullYield_37 : decode cX9_fullYield 37 = .ok (.iload_n 2, 1) := by decide +kernel
theorem dX9_fullYield_38 : decode cX9_fullYield 38 = .ok (.ireturn, 1) := by decide +kernel
theorem dX9_lowHours_0 : decode cX9_lowHours 0 = .ok (.iconst 0, 1) := by decide +kernel
theorem dX9_lowHours_1 : decode cX9_lowHours 1 = .ok (.istore_n 2, 1) := by decide +kernel
theorem dX9_lowHours_2 : decode cX9_lowHours 2 = .ok (.iconst 0, 1) := by decide +kernel
theorem dX9_lowHours_3 : decode cX9_lowHours 3 = .ok (.istore_n 3, 1) := by decide +kernel
theorem dX9_lowHours_4 : decode cX9_lowHours 4 = .ok (.iload_n 3, 1) := by decide +kernel
theorem dX9_lowHours_5 : decode cX9_lowHours 5 = .ok (.bipush 10, 2) := by decide +kernel
theorem dX9_lowHours_7 : decode cX9_lowHours 7 = .ok (.if_icmp .ge 46, 3) := by decide +kernel
theorem dX9_lowHours_10 : decode cX9_lowHours 10 = .ok (.iload_n 2, 1) := by decide +kernel
theorem dX9_lowHours_11 : decode cX9_lowHours 11 = .ok (.aload_n 0, 1) := by decide +kernel
theorem dX9_lowHours_12 : decode cX9_lowHours 12 = .ok (.iload_n 3, 1) := by decide +kernel
theorem dX9_lowHours_13 : decode cX9_lowHours 13 = .ok (.invokevirtual 62, 3) := by decide +kernel
theorem dX9_lowHours_16 : decode cX9_lowHours 16 = .ok (.ifCond .ne 28, 3) := by decide +kernel
theorem dX9_lowHours_19 : decode cX9_lowHours 19 = .ok (.aload_n 0, 1) := by decide +kernel
theorem dX9_lowHours_20 : decode cX9_lowHours 20 = .ok (.iload_n 1, 1) := by decide +kernel
theorem dX9_lowHours_21 : decode cX9_lowHours 21 = .ok (.aload_n 0, 1) := by decide +kernel
theorem dX9_lowHours_22 : decode cX9_lowHours 22 = .ok (.iload_n 1, 1) := by decide +kernel
theorem dX9_lowHours_23 : decode cX9_lowHours 23 = .ok (.iconst 2, 1) := by decide +kernel
theorem dX9_lowHours_24 : decode cX9_lowHours 24 = .ok (.invokevirtual 46, 3) := by decide +kernel
theorem dX9_lowHours_27 : decode cX9_lowHours 27 = .ok (.iload_n 3, 1) := by decide +kernel
theorem dX9_lowHours_28 : decode cX9_lowHours 28 = .ok (.invokevirtual 69, 3) := by decide +kernel
theorem dX9_lowHours_31 : decode cX9_lowHours 31 = .ok (.aload_n 0, 1) := by decide +kernel
theorem dX9_lowHours_32 : decode cX9_lowHours 32 = .ok (.iload_n 1, 1) := by decide +kernel
theorem dX9_lowHours_33 : decode cX9_lowHours 33 = .ok (.iconst 2, 1) := by decide +kernel
theorem dX9_lowHours_34 : decode cX9_lowHours 34 = .ok (.invokevirtual 46, 3) := by decide +kernel
theorem dX9_lowHours_37 : decode cX9_lowHours 37 = .ok (.if_icmp .ge 7, 3) := by decide +kernel
theorem dX9_lowHours_40 : decode cX9_lowHours 40 = .ok (.iconst 1, 1) := by decide +kernel
theorem dX9_lowHours_41 : decode cX9_lowHours 41 = .ok (.goto 4, 3) := by decide +kernel
theorem dX9_lowHours_44 : decode cX9_lowHours 44 = .ok (.iconst 0, 1) := by decide +kernel
theorem dX9_lowHours_45 : decode cX9_lowHours 45 = .ok (.iadd, 1) := by decide +kernel
theorem dX9_lowHours_46 : decode cX9_lowHours 46 = .ok (.istore_n 2, 1) := by decide +kernel
theorem dX9_lowHours_47 : decode cX9_lowHours 47 = .ok (.iinc 3 1, 3) := by decide +kernel
theorem dX9_lowHours_50 : decode cX9_lowHours 50 = .ok (.goto (-46), 3) := by decide +kernel
theorem dX9_lowHours_53 : decode cX9_lowHours 53 = .ok (.iload_n 2, 1) := by decide +kernel
theorem dX9_lowHours_54 : decode cX9_lowHours 54 = .ok (.ireturn, 1) := by decide +kernel
theorem dX9_shadeHours_0 : decode cX9_shadeHours 0 = .ok (.iconst 0, 1) := by decide +kernel
theorem dX9_shadeHours_1 : decode cX9_shadeHours 1 = .ok (.istore_n 2, 1) := by decide +kernel
theorem dX9_shadeHours_2 : decode cX9_shadeHours 2 = .ok (.iconst 0, 1) := by decide +kernel
theorem dX9_shadeHours_3 : decode cX9_shadeHours 3 = .ok (.istore_n 3, 1) := by decide +kernel
theorem dX9_shadeHours_4 : decode cX9_shadeHours 4 = .ok (.iload_n 3, 1) := by decide +kernel
theorem dX9_shadeHours_5 : decode cX9_shadeHours 5 = .ok (.bipush 10, 2) := by decide +kernel
theorem dX9_shadeHours_7 : decode cX9_shadeHours 7 = .ok (.if_icmp .ge 26, 3) := by decide +kernel
theorem dX9_shadeHours_10 : decode cX9_shadeHours 10 = .ok (.iload_n 2, 1) := by decide +kernel
theorem dX9_shadeHours_11 : decode cX9_shadeHours 11 = .ok (.aload_n 0, 1) := by decide +kernel
theorem dX9_shadeHours_12 : decode cX9_shadeHours 12 = .ok (.iload_n 1, 1) := by decide +kernel
theorem dX9_shadeHours_13 : decode cX9_shadeHours 13 = .ok (.iload_n 3, 1) := by decide +kernel
theorem dX9_shadeHours_14 : decode cX9_shadeHours 14 = .ok (.invokevirtual 84, 3) := by decide +kernel
theorem dX9_shadeHours_17 : decode cX9_shadeHours 17 = .ok (.ifCond .le 7, 3) := by decide +kernel
theorem dX9_shadeHours_20 : decode cX9_shadeHours 20 = .ok (.iconst 1, 1) := by decide +kernel
theorem dX9_shadeHours_21 : decode cX9_shadeHours 21 = .ok (.goto 4, 3) := by decide +kernel
theorem dX9_shadeHours_24 : decode cX9_shadeHours 24 = .ok (.iconst 0, 1) := by decide +kernel
theorem dX9_shadeHours_25 : decode cX9_shadeHours 25 = .ok (.iadd, 1) := by decide +kernel
theorem dX9_shadeHours_26 : decode cX9_shadeHours 26 = .ok (.istore_n 2, 1) := by decide +kernel
theorem dX9_shadeHours_27 : decode cX9_shadeHours 27 = .ok (.iinc 3 1, 3) := by decide +kernel
theorem dX9_shadeHours_30 : decode cX9_shadeHours 30 = .ok (.goto (-26), 3) := by decide +kernel
theorem dX9_shadeHours_33 : decode cX9_shadeHours 33 = .ok (.iload_n 2, 1) := by decide +kernel
theorem dX9_shadeHours_34 : decode cX9_shadeHours 34 = .ok (.ireturn, 1) := by decide +kernel
theorem dX9_blamedHours_0 : decode cX9_blamedHours 0 = .ok (.iconst 0, 1) := by decide +kernel
theorem dX9_blamedHours_1 : decode cX9_blamedHours 1 = .ok (.istore_n 3, 1) := by decide +kernel
theorem dX9_blamedHours_2 : decode cX9_blamedHours 2 = .ok (.iconst 0, 1) := by decide +kernel
theorem dX9_blamedHours_3 : decode cX9_blamedHours 3 = .ok (.istore 4, 2) := by decide +kernel
theorem dX9_blamedHours_5 : decode cX9_blamedHours 5 = .ok (.iload 4, 2) := by decide +kernel
theorem dX9_blamedHours_7 : decode cX9_blamedHours 7 = .ok (.bipush 10, 2) := by decide +kernel
theorem dX9_blamedHours_9 : decode cX9_blamedHours 9 = .ok (.if_icmp .ge 28, 3) := by decide +kernel
theorem dX9_blamedHours_12 : decode cX9_blamedHours 12 = .ok (.iload_n 3, 1) := by decide +kernel
theorem dX9_blamedHours_13 : decode cX9_blamedHours 13 = .ok (.aload_n 0, 1) := by decide +kernel
theorem dX9_blamedHours_14 : decode cX9_blamedHours 14 = .ok (.iload_n 1, 1) := by decide +kernel
theorem dX9_blamedHours_15 : decode cX9_blamedHours 15 = .ok (.iload 4, 2) := by decide +kernel
theorem dX9_blamedHours_17 : decode cX9_blamedHours 17 = .ok (.invokevirtual 78, 3) := by decide +kernel
theorem dX9_blamedHours_20 : decode cX9_blamedHours 20 = .ok (.iload_n 2, 1) := by decide +kernel
theorem dX9_blamedHours_21 : decode cX9_blamedHours 21 = .ok (.if_icmp .ne 7, 3) := by decide +kernel
theorem dX9_blamedHours_24 : decode cX9_blamedHours 24 = .ok (.iconst 1, 1) := by decide +kernel
theorem dX9_blamedHours_25 : decode cX9_blamedHours 25 = .ok (.goto 4, 3) := by decide +kernel
theorem dX9_blamedHours_28 : decode cX9_blamedHours 28 = .ok (.iconst 0, 1) := by decide +kernel
theorem dX9_blamedHours_29 : decode cX9_blamedHours 29 = .ok (.iadd, 1) := by decide +kernel
theorem dX9_blamedHours_30 : decode cX9_blamedHours 30 = .ok (.istore_n 3, 1) := by decide +kernel
theorem dX9_blamedHours_31 : decode cX9_blamedHours 31 = .ok (.iinc 4 1, 3) := by decide +kernel
theorem dX9_blamedHours_34 : decode cX9_blamedHours 34 = .ok (.goto (-29), 3) := by decide +kernel
theorem dX9_blamedHours_37 : decode cX9_blamedHours 37 = .ok (.iload_n 3, 1) := by decide +kernel
theorem dX9_blamedHours_38 : decode cX9_blamedHours 38 = .ok (.ireturn, 1) := by decide +kernel
theorem dX9_mostBlamed_0 : decode cX9_mostBlamed 0 = .ok (.bipush (-6), 2) := by decide +kernel
theorem dX9_mostBlamed_2 : decode cX9_mostBlamed 2 = .ok (.istore_n 2, 1) := by decide +kernel
theorem dX9_mostBlamed_3 : decode cX9_mostBlamed 3 = .ok (.iconst 0, 1) := by decide +kernel
theorem dX9_mostBlamed_4 : decode cX9_mostBlamed 4 = .ok (.istore_n 3, 1) := by decide +kernel
theorem dX9_mostBlamed_5 : decode cX9_mostBlamed 5 = .ok (.iconst 0, 1) := by decide +kernel
theorem dX9_mostBlamed_6 : decode cX9_mostBlamed 6 = .ok (.istore 4, 2) := by decide +kernel
theorem dX9_mostBlamed_8 : decode cX9_mostBlamed 8 = .ok (.iload 4, 2) := by decide +kernel
theorem dX9_mostBlamed_10 : decode cX9_mostBlamed 10 = .ok (.aload_n 0, 1) := by decide +kernel
theorem dX9_mostBlamed_11 : decode cX9_mostBlamed 11 = .ok (.getfield 7, 3) := by decide +kernel
theorem dX9_mostBlamed_14 : decode cX9_mostBlamed 14 = .ok (.iconst 0, 1) := by decide +kernel
theorem dX9_mostBlamed_15 : decode cX9_mostBlamed 15 = .ok (.iaload, 1) := by decide +kernel
theorem dX9_mostBlamed_16 : decode cX9_mostBlamed 16 = .ok (.if_icmp .ge 44, 3) := by decide +kernel
theorem dX9_mostBlamed_19 : decode cX9_mostBlamed 19 = .ok (.aload_n 0, 1) := by decide +kernel
theorem dX9_mostBlamed_20 : decode cX9_mostBlamed 20 = .ok (.iload_n 1, 1) := by decide +kernel
theorem dX9_mostBlamed_21 : decode cX9_mostBlamed 21 = .ok (.iload 4, 2) := by decide +kernel
theorem dX9_mostBlamed_23 : decode cX9_mostBlamed 23 = .ok (.invokevirtual 164, 3) := by decide +kernel
theorem dX9_mostBlamed_26 : decode cX9_mostBlamed 26 = .ok (.istore 5, 2) := by decide +kernel
theorem dX9_mostBlamed_28 : decode cX9_mostBlamed 28 = .ok (.iload 5, 2) := by decide +kernel
theorem dX9_mostBlamed_30 : decode cX9_mostBlamed 30 = .ok (.iload_n 3, 1) := by decide +kernel
theorem dX9_mostBlamed_31 : decode cX9_mostBlamed 31 = .ok (.if_icmp .le 8, 3) := by decide +kernel
theorem dX9_mostBlamed_34 : decode cX9_mostBlamed 34 = .ok (.iload 4, 2) := by decide +kernel
theorem dX9_mostBlamed_36 : decode cX9_mostBlamed 36 = .ok (.goto 4, 3) := by decide +kernel
theorem dX9_mostBlamed_39 : decode cX9_mostBlamed 39 = .ok (.iload_n 2, 1) := by decide +kernel
theorem dX9_mostBlamed_40 : decode cX9_mostBlamed 40 = .ok (.istore_n 2, 1) := by decide +kernel
theorem dX9_mostBlamed_41 : decode cX9_mostBlamed 41 = .ok (.iload 5, 2) := by decide +kernel
theorem dX9_mostBlamed_43 : decode cX9_mostBlamed 43 = .ok (.iload_n 3, 1) := by decide +kernel
theorem dX9_mostBlamed_44 : decode cX9_mostBlamed 44 = .ok (.if_icmp .le 8, 3) := by decide +kernel
theorem dX9_mostBlamed_47 : decode cX9_mostBlamed 47 = .ok (.iload 5, 2) := by decide +kernel
theorem dX9_mostBlamed_49 : decode cX9_mostBlamed 49 = .ok (.goto 4, 3) := by decide +kernel
theorem dX9_mostBlamed_52 : decode cX9_mostBlamed 52 = .ok (.iload_n 3, 1) := by decide +kernel
theorem dX9_mostBlamed_53 : decode cX9_mostBlamed 53 = .ok (.istore_n 3, 1) := by decide +kernel
theorem dX9_mostBlamed_54 : decode cX9_mostBlamed 54 = .ok (.iinc 4 1, 3) := by decide +kernel
theorem dX9_mostBlamed_57 : decode cX9_mostBlamed 57 = .ok (.goto (-49), 3) := by decide +kernel
theorem dX9_mostBlamed_60 : decode cX9_mostBlamed 60 = .ok (.iload_n 2, 1) := by decide +kernel
theorem dX9_mostBlamed_61 : decode cX9_mostBlamed 61 = .ok (.ireturn, 1) := by decide +kernel
theorem dX9_ofRow_0 : decode cX9_ofRow 0 = .ok (.aload_n 0, 1) := by decide +kernel
theorem dX9_ofRow_1 : decode cX9_ofRow 1 = .ok (.iload_n 1, 1) := by decide +kernel
theorem dX9_ofRow_2 : decode cX9_ofRow 2 = .ok (.invokevirtual 102, 3) := by decide +kernel
theorem dX9_ofRow_5 : decode cX9_ofRow 5 = .ok (.ifCond .ne 5, 3) := by decide +kernel
theorem dX9_ofRow_8 : decode cX9_ofRow 8 = .ok (.iconst (-1), 1) := by decide +kernel
theorem dX9_ofRow_9 : decode cX9_ofRow 9 = .ok (.ireturn, 1) := by decide +kernel
theorem dX9_ofRow_10 : decode cX9_ofRow 10 = .ok (.iload_n 2, 1) := by decide +kernel
theorem dX9_ofRow_11 : decode cX9_ofRow 11 = .ok (.tableswitch 96 0 8 #[49, 49, 49, 56, 66, 72, 78, 84, 90], 49) := by decide +kernel
theorem dX9_ofRow_60 : decode cX9_ofRow 60 = .ok (.aload_n 0, 1) := by decide +kernel
theorem dX9_ofRow_61 : decode cX9_ofRow 61 = .ok (.iload_n 1, 1) := by decide +kernel
theorem dX9_ofRow_62 : decode cX9_ofRow 62 = .ok (.iload_n 2, 1) := by decide +kernel
theorem dX9_ofRow_63 : decode cX9_ofRow 63 = .ok (.invokevirtual 46, 3) := by decide +kernel
theorem dX9_ofRow_66 : decode cX9_ofRow 66 = .ok (.ireturn, 1) := by decide +kernel
theorem dX9_ofRow_67 : decode cX9_ofRow 67 = .ok (.aload_n 0, 1) := by decide +kernel
theorem dX9_ofRow_68 : decode cX9_ofRow 68 = .ok (.iload_n 1, 1) := by decide +kernel
theorem dX9_ofRow_69 : decode cX9_ofRow 69 = .ok (.iconst 3, 1) := by decide +kernel
theorem dX9_ofRow_70 : decode cX9_ofRow 70 = .ok (.invokevirtual 46, 3) := by decide +kernel
theorem dX9_ofRow_73 : decode cX9_ofRow 73 = .ok (.ldc 167, 2) := by decide +kernel
theorem dX9_ofRow_75 : decode cX9_ofRow 75 = .ok (.iadd, 1) := by decide +kernel
theorem dX9_ofRow_76 : decode cX9_ofRow 76 = .ok (.ireturn, 1) := by decide +kernel
theorem dX9_ofRow_77 : decode cX9_ofRow 77 = .ok (.aload_n 0, 1) := by decide +kernel
theorem dX9_ofRow_78 : decode cX9_ofRow 78 = .ok (.iload_n 1, 1) := by decide +kernel
theorem dX9_ofRow_79 : decode cX9_ofRow 79 = .ok (.invokevirtual 93, 3) := by decide +kernel
theorem dX9_ofRow_82 : decode cX9_ofRow 82 = .ok (.ireturn, 1) := by decide +kernel
theorem dX9_ofRow_83 : decode cX9_ofRow 83 = .ok (.aload_n 0, 1) := by decide +kernel
theorem dX9_ofRow_84 : decode cX9_ofRow 84 = .ok (.iload_n 1, 1) := by decide +kernel
theorem dX9_ofRow_85 : decode cX9_ofRow 85 = .ok (.invokevirtual 168, 3) := by decide +kernel
theorem dX9_ofRow_88 : decode cX9_ofRow 88 = .ok (.ireturn, 1) := by decide +kernel
theorem dX9_ofRow_89 : decode cX9_ofRow 89 = .ok (.aload_n 0, 1) := by decide +kernel
theorem dX9_ofRow_90 : decode cX9_ofRow 90 = .ok (.iload_n 1, 1) := by decide +kernel
theorem dX9_ofRow_91 : decode cX9_ofRow 91 = .ok (.invokevirtual 171, 3) := by decide +kernel
theorem dX9_ofRow_94 : decode cX9_ofRow 94 = .ok (.ireturn, 1) := by decide +kernel
theorem dX9_ofRow_95 : decode cX9_ofRow 95 = .ok (.aload_n 0, 1) := by decide +kernel
theorem dX9_ofRow_96 : decode cX9_ofRow 96 = .ok (.iload_n 1, 1) := by decide +kernel
theorem dX9_ofRow_97 : decode cX9_ofRow 97 = .ok (.invokevirtual 174, 3) := by decide +kernel
theorem dX9_ofRow_100 : decode cX9_ofRow 100 = .ok (.ireturn, 1) := by decide +kernel
theorem dX9_ofRow_101 : decode cX9_ofRow 101 = .ok (.aload_n 0, 1) := by decide +kernel
theorem dX9_ofRow_102 : decode cX9_ofRow 102 = .ok (.iload_n 1, 1) := by decide +kernel
theorem dX9_ofRow_103 : decode cX9_ofRow 103 = .ok (.invokevirtual 177, 3) := by decide +kernel
theorem dX9_ofRow_106 : decode cX9_ofRow 106 = .ok (.ireturn, 1) := by decide +kernel
theorem dX9_ofRow_107 : decode cX9_ofRow 107 = .ok (.bipush (-2), 2) := by decide +kernel
theorem dX9_ofRow_109 : decode cX9_ofRow 109 = .ok (.ireturn, 1) := by decide +kernel
theorem dX9_inHour_0 : decode cX9_inHour 0 = .ok (.aload_n 0, 1) := by decide +kernel
theorem dX9_inHour_1 : decode cX9_inHour 1 = .ok (.iload_n 1, 1) := by decide +kernel
theorem dX9_inHour_2 : decode cX9_inHour 2 = .ok (.invokevirtual 102, 3) := by decide +kernel
theorem dX9_inHour_5 : decode cX9_inHour 5 = .ok (.ifCond .eq 10, 3) := by decide +kernel
theorem dX9_inHour_8 : decode cX9_inHour 8 = .ok (.iload_n 2, 1) := by decide +kernel
theorem dX9_inHour_9 : decode cX9_inHour 9 = .ok (.invokestatic 111, 3) := by decide +kernel
theorem dX9_inHour_12 : decode cX9_inHour 12 = .ok (.ifCond .ne 5, 3) := by decide +kernel
theorem dX9_inHour_15 : decode cX9_inHour 15 = .ok (.iconst (-1), 1) := by decide +kernel
theorem dX9_inHour_16 : decode cX9_inHour 16 = .ok (.ireturn, 1) := by decide +kernel
theorem dX9_inHour_17 : decode cX9_inHour 17 = .ok (.iload_n 3, 1) := by decide +kernel
theorem dX9_inHour_18 : decode cX9_inHour 18 = .ok (.tableswitch 75 0 4 #[34, 47, 54, 61, 68], 34) := by decide +kernel
theorem dX9_inHour_52 : decode cX9_inHour 52 = .ok (.aload_n 0, 1) := by decide +kernel
theorem dX9_inHour_53 : decode cX9_inHour 53 = .ok (.iload_n 1, 1) := by decide +kernel
theorem dX9_inHour_54 : decode cX9_inHour 54 = .ok (.aload_n 0, 1) := by decide +kernel
theorem dX9_inHour_55 : decode cX9_inHour 55 = .ok (.iload_n 1, 1) := by decide +kernel
theorem dX9_inHour_56 : decode cX9_inHour 56 = .ok (.iconst 2, 1) := by decide +kernel
theorem dX9_inHour_57 : decode cX9_inHour 57 = .ok (.invokevirtual 46, 3) := by decide +kernel
theorem dX9_inHour_60 : decode cX9_inHour 60 = .ok (.iload_n 2, 1) := by decide +kernel
theorem dX9_inHour_61 : decode cX9_inHour 61 = .ok (.invokevirtual 69, 3) := by decide +kernel
theorem dX9_inHour_64 : decode cX9_inHour 64 = .ok (.ireturn, 1) := by decide +kernel
theorem dX9_inHour_65 : decode cX9_inHour 65 = .ok (.aload_n 0, 1) := by decide +kernel
theorem dX9_inHour_66 : decode cX9_inHour 66 = .ok (.iload_n 1, 1) := by decide +kernel
theorem dX9_inHour_67 : decode cX9_inHour 67 = .ok (.iload_n 2, 1) := by decide +kernel
theorem dX9_inHour_68 : decode cX9_inHour 68 = .ok (.invokevirtual 81, 3) := by decide +kernel
theorem dX9_inHour_71 : decode cX9_inHour 71 = .ok (.ireturn, 1) := by decide +kernel
theorem dX9_inHour_72 : decode cX9_inHour 72 = .ok (.aload_n 0, 1) := by decide +kernel
theorem dX9_inHour_73 : decode cX9_inHour 73 = .ok (.iload_n 1, 1) := by decide +kernel
theorem dX9_inHour_74 : decode cX9_inHour 74 = .ok (.iload_n 2, 1) := by decide +kernel
theorem dX9_inHour_75 : decode cX9_inHour 75 = .ok (.invokevirtual 84, 3) := by decide +kernel
theorem dX9_inHour_78 : decode cX9_inHour 78 = .ok (.ireturn, 1) := by decide +kernel
theorem dX9_inHour_79 : decode cX9_inHour 79 = .ok (.aload_n 0, 1) := by decide +kernel
theorem dX9_inHour_80 : decode cX9_inHour 80 = .ok (.iload_n 1, 1) := by decide +kernel
theorem dX9_inHour_81 : decode cX9_inHour 81 = .ok (.iload_n 2, 1) := by decide +kernel
theorem dX9_inHour_82 : decode cX9_inHour 82 = .ok (.invokevirtual 78, 3) := by decide +kernel
theorem dX9_inHour_85 : decode cX9_inHour 85 = .ok (.ireturn, 1) := by decide +kernel
theorem dX9_inHour_86 : decode cX9_inHour 86 = .ok (.aload_n 0, 1) := by decide +kernel
theorem dX9_inHour_87 : decode cX9_inHour 87 = .ok (.iload_n 1, 1) := by decide +kernel
theorem dX9_inHour_88 : decode cX9_inHour 88 = .ok (.iload_n 2, 1) := by decide +kernel
theorem dX9_inHour_89 : decode cX9_inHour 89 = .ok (.invokevirtual 90, 3) := by decide +kernel
theorem dX9_inHour_92 : decode cX9_inHour 92 = .ok (.ireturn, 1) := by decide +kernel
theorem dX9_inHour_93 : decode cX9_inHour 93 = .ok (.bipush (-2), 2) := by decide +kernel
theorem dX9_inHour_95 : decode cX9_inHour 95 = .ok (.ireturn, 1) := by decide +kernel
theorem dX9_over_0 : decode cX9_over 0 = .ok (.aload_n 0, 1) := by decide +kernel
theorem dX9_over_1 : decode cX9_over 1 = .ok (.iload_n 1, 1) := by decide +kernel
theorem dX9_over_2 : decode cX9_over 2 = .ok (.invokevirtual 102, 3) := by decide +kernel
theorem dX9_over_5 : decode cX9_over 5 = .ok (.ifCond .eq 18, 3) := by decide +kernel
theorem dX9_over_8 : decode cX9_over 8 = .ok (.aload_n 0, 1) := by decide +kernel
theorem dX9_over_9 : decode cX9_over 9 = .ok (.iload_n 2, 1) := by decide +kernel
theorem dX9_over_10 : decode cX9_over 10 = .ok (.invokevirtual 102, 3) := by decide +kernel
theorem dX9_over_13 : decode cX9_over 13 = .ok (.ifCond .eq 10, 3) := by decide +kernel
theorem dX9_over_16 : decode cX9_over 16 = .ok (.iload_n 3, 1) := by decide +kernel
theorem dX9_over_17 : decode cX9_over 17 = .ok (.invokestatic 111, 3) := by decide +kernel
theorem dX9_over_20 : decode cX9_over 20 = .ok (.ifCond .ne 5, 3) := by decide +kernel
theorem dX9_over_23 : decode cX9_over 23 = .ok (.iconst (-1), 1) := by decide +kernel
theorem dX9_over_24 : decode cX9_over 24 = .ok (.ireturn, 1) := by decide +kernel
theorem dX9_over_25 : decode cX9_over 25 = .ok (.iload_n 1, 1) := by decide +kernel
theorem dX9_over_26 : decode cX9_over 26 = .ok (.iload_n 2, 1) := by decide +kernel
theorem dX9_over_27 : decode cX9_over 27 = .ok (.if_icmp .eq 13, 3) := by decide +kernel
theorem dX9_over_30 : decode cX9_over 30 = .ok (.iload 4, 2) := by decide +kernel
theorem dX9_over_32 : decode cX9_over 32 = .ok (.iconst 0, 1) := by decide +kernel
theorem dX9_over_33 : decode cX9_over 33 = .ok (.iconst 2, 1) := by decide +kernel
theorem dX9_over_34 : decode cX9_over 34 = .ok (.invokestatic 42, 3) := by decide +kernel
theorem dX9_over_37 : decode cX9_over 37 = .ok (.ifCond .ne 6, 3) := by decide +kernel
theorem dX9_over_40 : decode cX9_over 40 = .ok (.bipush (-2), 2) := by decide +kernel
theorem dX9_over_42 : decode cX9_over 42 = .ok (.ireturn, 1) := by decide +kernel
theorem dX9_over_43 : decode cX9_over 43 = .ok (.iload 4, 2) := by decide +kernel
theorem dX9_over_45 : decode cX9_over 45 = .ok (.ifCond .ne 13, 3) := by decide +kernel
theorem dX9_over_48 : decode cX9_over 48 = .ok (.aload_n 0, 1) := by decide +kernel
theorem dX9_over_49 : decode cX9_over 49 = .ok (.iload_n 1, 1) := by decide +kernel
theorem dX9_over_50 : decode cX9_over 50 = .ok (.iload_n 2, 1) := by decide +kernel
theorem dX9_over_51 : decode cX9_over 51 = .ok (.iload_n 3, 1) := by decide +kernel
theorem dX9_over_52 : decode cX9_over 52 = .ok (.invokevirtual 58, 3) := by decide +kernel
theorem dX9_over_55 : decode cX9_over 55 = .ok (.goto 32, 3) := by decide +kernel
theorem dX9_over_58 : decode cX9_over 58 = .ok (.iload 4, 2) := by decide +kernel
theorem dX9_over_60 : decode cX9_over 60 = .ok (.iconst 1, 1) := by decide +kernel
theorem dX9_over_61 : decode cX9_over 61 = .ok (.if_icmp .ne 13, 3) := by decide +kernel
theorem dX9_over_64 : decode cX9_over 64 = .ok (.aload_n 0, 1) := by decide +kernel
theorem dX9_over_65 : decode cX9_over 65 = .ok (.iload_n 1, 1) := by decide +kernel
theorem dX9_over_66 : decode cX9_over 66 = .ok (.iload_n 2, 1) := by decide +kernel
theorem dX9_over_67 : decode cX9_over 67 = .ok (.iload_n 3, 1) := by decide +kernel
theorem dX9_over_68 : decode cX9_over 68 = .ok (.invokevirtual 72, 3) := by decide +kernel
theorem dX9_over_71 : decode cX9_over 71 = .ok (.goto 16, 3) := by decide +kernel
theorem dX9_over_74 : decode cX9_over 74 = .ok (.aload_n 0, 1) := by decide +kernel
theorem dX9_over_75 : decode cX9_over 75 = .ok (.iload_n 1, 1) := by decide +kernel
theorem dX9_over_76 : decode cX9_over 76 = .ok (.aload_n 0, 1) := by decide +kernel
theorem dX9_over_77 : decode cX9_over 77 = .ok (.iload_n 1, 1) := by decide +kernel
theorem dX9_over_78 : decode cX9_over 78 = .ok (.iconst 2, 1) := by decide +kernel
theorem dX9_over_79 : decode cX9_over 79 = .ok (.invokevirtual 46, 3) := by decide +kernel
theorem dX9_over_82 : decode cX9_over 82 = .ok (.iload_n 2, 1) := by decide +kernel
theorem dX9_over_83 : decode cX9_over 83 = .ok (.iload_n 3, 1) := by decide +kernel
theorem dX9_over_84 : decode cX9_over 84 = .ok (.invokevirtual 54, 3) := by decide +kernel
theorem dX9_over_87 : decode cX9_over 87 = .ok (.ireturn, 1) := by decide +kernel
theorem dX9_offer_0 : decode cX9_offer 0 = .ok (.iload_n 1, 1) := by decide +kernel
theorem dX9_offer_1 : decode cX9_offer 1 = .ok (.iconst 0, 1) := by decide +kernel
theorem dX9_offer_2 : decode cX9_offer 2 = .ok (.iconst 1, 1) := by decide +kernel
theorem dX9_offer_3 : decode cX9_offer 3 = .ok (.invokestatic 42, 3) := by decide +kernel
theorem dX9_offer_6 : decode cX9_offer 6 = .ok (.ifCond .eq 12, 3) := by decide +kernel
theorem dX9_offer_9 : decode cX9_offer 9 = .ok (.iload_n 3, 1) := by decide +kernel
theorem dX9_offer_10 : decode cX9_offer 10 = .ok (.iconst 0, 1) := by decide +kernel
theorem dX9_offer_11 : decode cX9_offer 11 = .ok (.iconst 4, 1) := by decide +kernel
theorem dX9_offer_12 : decode cX9_offer 12 = .ok (.invokestatic 42, 3) := by decide +kernel
theorem dX9_offer_15 : decode cX9_offer 15 = .ok (.ifCond .ne 6, 3) := by decide +kernel
theorem dX9_offer_18 : decode cX9_offer 18 = .ok (.bipush (-2), 2) := by decide +kernel
theorem dX9_offer_20 : decode cX9_offer 20 = .ok (.ireturn, 1) := by decide +kernel
theorem dX9_offer_21 : decode cX9_offer 21 = .ok (.iload_n 2, 1) := by decide +kernel
theorem dX9_offer_22 : decode cX9_offer 22 = .ok (.iconst 0, 1) := by decide +kernel
theorem dX9_offer_23 : decode cX9_offer 23 = .ok (.aload_n 0, 1) := by decide +kernel
theorem dX9_offer_24 : decode cX9_offer 24 = .ok (.getfield 7, 3) := by decide +kernel
theorem dX9_offer_27 : decode cX9_offer 27 = .ok (.iconst 3, 1) := by decide +kernel
theorem dX9_offer_28 : decode cX9_offer 28 = .ok (.iload_n 1, 1) := by decide +kernel
theorem dX9_offer_29 : decode cX9_offer 29 = .ok (.iadd, 1) := by decide +kernel
theorem dX9_offer_30 : decode cX9_offer 30 = .ok (.iaload, 1) := by decide +kernel
theorem dX9_offer_31 : decode cX9_offer 31 = .ok (.iconst 1, 1) := by decide +kernel
theorem dX9_offer_32 : decode cX9_offer 32 = .ok (.isub, 1) := by decide +kernel
theorem dX9_offer_33 : decode cX9_offer 33 = .ok (.invokestatic 42, 3) := by decide +kernel
theorem dX9_offer_36 : decode cX9_offer 36 = .ok (.ifCond .ne 5, 3) := by decide +kernel
theorem dX9_offer_39 : decode cX9_offer 39 = .ok (.iconst (-1), 1) := by decide +kernel
theorem dX9_offer_40 : decode cX9_offer 40 = .ok (.ireturn, 1) := by decide +kernel
theorem dX9_offer_41 : decode cX9_offer 41 = .ok (.iload_n 1, 1) := by decide +kernel
theorem dX9_offer_42 : decode cX9_offer 42 = .ok (.iconst 1, 1) := by decide +kernel
theorem dX9_offer_43 : decode cX9_offer 43 = .ok (.if_icmp .ne 12, 3) := by decide +kernel
theorem dX9_offer_46 : decode cX9_offer 46 = .ok (.aload_n 0, 1) := by decide +kernel
theorem dX9_offer_47 : decode cX9_offer 47 = .ok (.iload_n 2, 1) := by decide +kernel
theorem dX9_offer_48 : decode cX9_offer 48 = .ok (.iload_n 3, 1) := by decide +kernel
theorem dX9_offer_49 : decode cX9_offer 49 = .ok (.invokevirtual 145, 3) := by decide +kernel
theorem dX9_offer_52 : decode cX9_offer 52 = .ok (.goto 19, 3) := by decide +kernel
theorem dX9_offer_55 : decode cX9_offer 55 = .ok (.iload_n 3, 1) := by decide +kernel
theorem dX9_offer_56 : decode cX9_offer 56 = .ok (.iconst 4, 1) := by decide +kernel
theorem dX9_offer_57 : decode cX9_offer 57 = .ok (.if_icmp .ne 8, 3) := by decide +kernel
theorem dX9_offer_60 : decode cX9_offer 60 = .ok (.bipush (-6), 2) := by decide +kernel
theorem dX9_offer_62 : decode cX9_offer 62 = .ok (.goto 9, 3) := by decide +kernel
theorem dX9_offer_65 : decode cX9_offer 65 = .ok (.aload_n 0, 1) := by decide +kernel
theorem dX9_offer_66 : decode cX9_offer 66 = .ok (.iload_n 2, 1) := by decide +kernel
theorem dX9_offer_67 : decode cX9_offer 67 = .ok (.iload_n 3, 1) := by decide +kernel
theorem dX9_offer_68 : decode cX9_offer 68 = .ok (.invokevirtual 148, 3) := by decide +kernel
theorem dX9_offer_71 : decode cX9_offer 71 = .ok (.ireturn, 1) := by decide +kernel
theorem dX9_count_0 : decode cX9_count 0 = .ok (.iload_n 1, 1) := by decide +kernel
theorem dX9_count_1 : decode cX9_count 1 = .ok (.tableswitch 97 0 7 #[47, 54, 61, 68, 73, 80, 87, 92], 47) := by decide +kernel
theorem dX9_count_48 : decode cX9_count 48 = .ok (.aload_n 0, 1) := by decide +kernel
theorem dX9_count_49 : decode cX9_count 49 = .ok (.getfield 7, 3) := by decide +kernel
theorem dX9_count_52 : decode cX9_count 52 = .ok (.iconst 0, 1) := by decide +kernel
theorem dX9_count_53 : decode cX9_count 53 = .ok (.iaload, 1) := by decide +kernel
theorem dX9_count_54 : decode cX9_count 54 = .ok (.ireturn, 1) := by decide +kernel
theorem dX9_count_55 : decode cX9_count 55 = .ok (.aload_n 0, 1) := by decide +kernel
theorem dX9_count_56 : decode cX9_count 56 = .ok (.getfield 7, 3) := by decide +kernel
theorem dX9_count_59 : decode cX9_count 59 = .ok (.iconst 3, 1) := by decide +kernel
theorem dX9_count_60 : decode cX9_count 60 = .ok (.iaload, 1) := by decide +kernel
theorem dX9_count_61 : decode cX9_count 61 = .ok (.ireturn, 1) := by decide +kernel
theorem dX9_count_62 : decode cX9_count 62 = .ok (.aload_n 0, 1) := by decide +kernel
theorem dX9_count_63 : decode cX9_count 63 = .ok (.getfield 7, 3) := by decide +kernel
theorem dX9_count_66 : decode cX9_count 66 = .ok (.iconst 4, 1) := by decide +kernel
theorem dX9_count_67 : decode cX9_count 67 = .ok (.iaload, 1) := by decide +kernel
theorem dX9_count_68 : decode cX9_count 68 = .ok (.ireturn, 1) := by decide +kernel
theorem dX9_count_69 : decode cX9_count 69 = .ok (.aload_n 0, 1) := by decide +kernel
theorem dX9_count_70 : decode cX9_count 70 = .ok (.invokevirtual 180, 3) := by decide +kernel
theorem dX9_count_73 : decode cX9_count 73 = .ok (.ireturn, 1) := by decide +kernel
theorem dX9_count_74 : decode cX9_count 74 = .ok (.aload_n 0, 1) := by decide +kernel
theorem dX9_count_75 : decode cX9_count 75 = .ok (.getfield 7, 3) := by decide +kernel
theorem dX9_count_78 : decode cX9_count 78 = .ok (.iconst 2, 1) := by decide +kernel
theorem dX9_count_79 : decode cX9_count 79 = .ok (.iaload, 1) := by decide +kernel
theorem dX9_count_80 : decode cX9_count 80 = .ok (.ireturn, 1) := by decide +kernel
theorem dX9_count_81 : decode cX9_count 81 = .ok (.aload_n 0, 1) := by decide +kernel
theorem dX9_count_82 : decode cX9_count 82 = .ok (.getfield 7, 3) := by decide +kernel
theorem dX9_count_85 : decode cX9_count 85 = .ok (.iconst 1, 1) := by decide +kernel
theorem dX9_count_86 : decode cX9_count 86 = .ok (.iaload, 1) := by decide +kernel
theorem dX9_count_87 : decode cX9_count 87 = .ok (.ireturn, 1) := by decide +kernel
theorem dX9_count_88 : decode cX9_count 88 = .ok (.aload_n 0, 1) := by decide +kernel
theorem dX9_count_89 : decode cX9_count 89 = .ok (.getfield 183, 3) := by decide +kernel
theorem dX9_count_92 : decode cX9_count 92 = .ok (.ireturn, 1) := by decide +kernel
theorem dX9_count_93 : decode cX9_count 93 = .ok (.aload_n 0, 1) := by decide +kernel
theorem dX9_count_94 : decode cX9_count 94 = .ok (.getfield 34, 3) := by decide +kernel
theorem dX9_count_97 : decode cX9_count 97 = .ok (.ireturn, 1) := by decide +kernel
theorem dX9_count_98 : decode cX9_count 98 = .ok (.iload_n 1, 1) := by decide +kernel
theorem dX9_count_99 : decode cX9_count 99 = .ok (.bipush 10, 2) := by decide +kernel
theorem dX9_count_101 : decode cX9_count 101 = .ok (.bipush 19, 2) := by decide +kernel
theorem dX9_count_103 : decode cX9_count 103 = .ok (.invokestatic 42, 3) := by decide +kernel
theorem dX9_count_106 : decode cX9_count 106 = .ok (.ifCond .eq 17, 3) := by decide +kernel
theorem dX9_count_109 : decode cX9_count 109 = .ok (.aload_n 0, 1) := by decide +kernel
theorem dX9_count_110 : decode cX9_count 110 = .ok (.getfield 7, 3) := by decide +kernel
theorem dX9_count_113 : decode cX9_count 113 = .ok (.iconst 5, 1) := by decide +kernel
theorem dX9_count_114 : decode cX9_count 114 = .ok (.iload_n 1, 1) := by decide +kernel
theorem dX9_count_115 : decode cX9_count 115 = .ok (.iadd, 1) := by decide +kernel
theorem dX9_count_116 : decode cX9_count 116 = .ok (.bipush 10, 2) := by decide +kernel
theorem dX9_count_118 : decode cX9_count 118 = .ok (.isub, 1) := by decide +kernel
theorem dX9_count_119 : decode cX9_count 119 = .ok (.iaload, 1) := by decide +kernel
theorem dX9_count_120 : decode cX9_count 120 = .ok (.goto 5, 3) := by decide +kernel
theorem dX9_count_123 : decode cX9_count 123 = .ok (.bipush (-2), 2) := by decide +kernel
theorem dX9_count_125 : decode cX9_count 125 = .ok (.ireturn, 1) := by decide +kernel
theorem dX9_worth_0 : decode cX9_worth 0 = .ok (.aload_n 0, 1) := by decide +kernel
theorem dX9_worth_1 : decode cX9_worth 1 = .ok (.iload_n 1, 1) := by decide +kernel
theorem dX9_worth_2 : decode cX9_worth 2 = .ok (.iload_n 2, 1) := by decide +kernel
theorem dX9_worth_3 : decode cX9_worth 3 = .ok (.iload_n 3, 1) := by decide +kernel
theorem dX9_worth_4 : decode cX9_worth 4 = .ok (.iload 4, 2) := by decide +kernel
theorem dX9_worth_6 : decode cX9_worth 6 = .ok (.invokevirtual 114, 3) := by decide +kernel
theorem dX9_worth_9 : decode cX9_worth 9 = .ok (.istore 6, 2) := by decide +kernel
theorem dX9_worth_11 : decode cX9_worth 11 = .ok (.iload 6, 2) := by decide +kernel
theorem dX9_worth_13 : decode cX9_worth 13 = .ok (.ifCond .lt 13, 3) := by decide +kernel
theorem dX9_worth_16 : decode cX9_worth 16 = .ok (.iload 5, 2) := by decide +kernel
theorem dX9_worth_18 : decode cX9_worth 18 = .ok (.iconst 0, 1) := by decide +kernel
theorem dX9_worth_19 : decode cX9_worth 19 = .ok (.iconst 2, 1) := by decide +kernel
theorem dX9_worth_20 : decode cX9_worth 20 = .ok (.invokestatic 42, 3) := by decide +kernel
theorem dX9_worth_23 : decode cX9_worth 23 = .ok (.ifCond .ne 16, 3) := by decide +kernel
theorem dX9_worth_26 : decode cX9_worth 26 = .ok (.iload 6, 2) := by decide +kernel
theorem dX9_worth_28 : decode cX9_worth 28 = .ok (.ifCond .ge 8, 3) := by decide +kernel
theorem dX9_worth_31 : decode cX9_worth 31 = .ok (.iload 6, 2) := by decide +kernel
theorem dX9_worth_33 : decode cX9_worth 33 = .ok (.goto 5, 3) := by decide +kernel
theorem dX9_worth_36 : decode cX9_worth 36 = .ok (.bipush (-2), 2) := by decide +kernel
theorem dX9_worth_38 : decode cX9_worth 38 = .ok (.ireturn, 1) := by decide +kernel
theorem dX9_worth_39 : decode cX9_worth 39 = .ok (.aload_n 0, 1) := by decide +kernel
theorem dX9_worth_40 : decode cX9_worth 40 = .ok (.iload_n 1, 1) := by decide +kernel
theorem dX9_worth_41 : decode cX9_worth 41 = .ok (.iload_n 2, 1) := by decide +kernel
theorem dX9_worth_42 : decode cX9_worth 42 = .ok (.iload_n 3, 1) := by decide +kernel
theorem dX9_worth_43 : decode cX9_worth 43 = .ok (.invokevirtual 58, 3) := by decide +kernel
theorem dX9_worth_46 : decode cX9_worth 46 = .ok (.istore 7, 2) := by decide +kernel
theorem dX9_worth_48 : decode cX9_worth 48 = .ok (.iload 5, 2) := by decide +kernel
theorem dX9_worth_50 : decode cX9_worth 50 = .ok (.ifCond .ne 11, 3) := by decide +kernel
theorem dX9_worth_53 : decode cX9_worth 53 = .ok (.aload_n 0, 1) := by decide +kernel
theorem dX9_worth_54 : decode cX9_worth 54 = .ok (.iload_n 1, 1) := by decide +kernel
theorem dX9_worth_55 : decode cX9_worth 55 = .ok (.invokevirtual 93, 3) := by decide +kernel
theorem dX9_worth_58 : decode cX9_worth 58 = .ok (.goto 21, 3) := by decide +kernel
theorem dX9_worth_61 : decode cX9_worth 61 = .ok (.iload 5, 2) := by decide +kernel
theorem dX9_worth_63 : decode cX9_worth 63 = .ok (.iconst 1, 1) := by decide +kernel
theorem dX9_worth_64 : decode cX9_worth 64 = .ok (.if_icmp .ne 11, 3) := by decide +kernel
theorem dX9_worth_67 : decode cX9_worth 67 = .ok (.aload_n 0, 1) := by decide +kernel
theorem dX9_worth_68 : decode cX9_worth 68 = .ok (.iload_n 2, 1) := by decide +kernel
theorem dX9_worth_69 : decode cX9_worth 69 = .ok (.invokevirtual 93, 3) := by decide +kernel
theorem dX9_worth_72 : decode cX9_worth 72 = .ok (.goto 7, 3) := by decide +kernel
theorem dX9_worth_75 : decode cX9_worth 75 = .ok (.aload_n 0, 1) := by decide +kernel
theorem dX9_worth_76 : decode cX9_worth 76 = .ok (.invokevirtual 180, 3) := by decide +kernel
theorem dX9_worth_79 : decode cX9_worth 79 = .ok (.istore 8, 2) := by decide +kernel
theorem dX9_worth_81 : decode cX9_worth 81 = .ok (.aload_n 0, 1) := by decide +kernel
theorem dX9_worth_82 : decode cX9_worth 82 = .ok (.iload_n 1, 1) := by decide +kernel
theorem dX9_worth_83 : decode cX9_worth 83 = .ok (.iload_n 2, 1) := by decide +kernel
theorem dX9_worth_84 : decode cX9_worth 84 = .ok (.iload_n 3, 1) := by decide +kernel
theorem dX9_worth_85 : decode cX9_worth 85 = .ok (.iload 4, 2) := by decide +kernel
theorem dX9_worth_87 : decode cX9_worth 87 = .ok (.invokevirtual 117, 3) := by decide +kernel
theorem dX9_worth_90 : decode cX9_worth 90 = .ok (.iload 5, 2) := by decide +kernel
theorem dX9_worth_92 : decode cX9_worth 92 = .ok (.ifCond .ne 11, 3) := by decide +kernel
theorem dX9_worth_95 : decode cX9_worth 95 = .ok (.aload_n 0, 1) := by decide +kernel
theorem dX9_worth_96 : decode cX9_worth 96 = .ok (.iload_n 1, 1) := by decide +kernel
theorem dX9_worth_97 : decode cX9_worth 97 = .ok (.invokevirtual 93, 3) := by decide +kernel
theorem dX9_worth_100 : decode cX9_worth 100 = .ok (.goto 21, 3) := by decide +kernel
theorem dX9_worth_103 : decode cX9_worth 103 = .ok (.iload 5, 2) := by decide +kernel
theorem dX9_worth_105 : decode cX9_worth 105 = .ok (.iconst 1, 1) := by decide +kernel
theorem dX9_worth_106 : decode cX9_worth 106 = .ok (.if_icmp .ne 11, 3) := by decide +kernel
theorem dX9_worth_109 : decode cX9_worth 109 = .ok (.aload_n 0, 1) := by decide +kernel
theorem dX9_worth_110 : decode cX9_worth 110 = .ok (.iload_n 2, 1) := by decide +kernel
theorem dX9_worth_111 : decode cX9_worth 111 = .ok (.invokevirtual 93, 3) := by decide +kernel
theorem dX9_worth_114 : decode cX9_worth 114 = .ok (.goto 7, 3) := by decide +kernel
theorem dX9_worth_117 : decode cX9_worth 117 = .ok (.aload_n 0, 1) := by decide +kernel
theorem dX9_worth_118 : decode cX9_worth 118 = .ok (.invokevirtual 180, 3) := by decide +kernel
theorem dX9_worth_121 : decode cX9_worth 121 = .ok (.istore 9, 2) := by decide +kernel
theorem dX9_worth_123 : decode cX9_worth 123 = .ok (.aload_n 0, 1) := by decide +kernel
theorem dX9_worth_124 : decode cX9_worth 124 = .ok (.iload_n 1, 1) := by decide +kernel
theorem dX9_worth_125 : decode cX9_worth 125 = .ok (.iload_n 2, 1) := by decide +kernel
theorem dX9_worth_126 : decode cX9_worth 126 = .ok (.iload_n 3, 1) := by decide +kernel
theorem dX9_worth_127 : decode cX9_worth 127 = .ok (.iload 7, 2) := by decide +kernel
theorem dX9_worth_129 : decode cX9_worth 129 = .ok (.invokevirtual 117, 3) := by decide +kernel
theorem dX9_worth_132 : decode cX9_worth 132 = .ok (.ldc 186, 2) := by decide +kernel
theorem dX9_worth_134 : decode cX9_worth 134 = .ok (.iload 5, 2) := by decide +kernel
theorem dX9_worth_136 : decode cX9_worth 136 = .ok (.iconst 1, 1) := by decide +kernel
theorem dX9_worth_137 : decode cX9_worth 137 = .ok (.if_icmp .ne 11, 3) := by decide +kernel
theorem dX9_worth_140 : decode cX9_worth 140 = .ok (.iload 8, 2) := by decide +kernel
theorem dX9_worth_142 : decode cX9_worth 142 = .ok (.iload 9, 2) := by decide +kernel
theorem dX9_worth_144 : decode cX9_worth 144 = .ok (.isub, 1) := by decide +kernel
theorem dX9_worth_145 : decode cX9_worth 145 = .ok (.goto 8, 3) := by decide +kernel
theorem dX9_worth_148 : decode cX9_worth 148 = .ok (.iload 9, 2) := by decide +kernel
theorem dX9_worth_150 : decode cX9_worth 150 = .ok (.iload 8, 2) := by decide +kernel
theorem dX9_worth_152 : decode cX9_worth 152 = .ok (.isub, 1) := by decide +kernel
theorem dX9_worth_153 : decode cX9_worth 153 = .ok (.iadd, 1) := by decide +kernel
theorem dX9_worth_154 : decode cX9_worth 154 = .ok (.ireturn, 1) := by decide +kernel
theorem dX9_bestTilt_0 : decode cX9_bestTilt 0 = .ok (.aload_n 0, 1) := by decide +kernel
theorem dX9_bestTilt_1 : decode cX9_bestTilt 1 = .ok (.iload_n 1, 1) := by decide +kernel
theorem dX9_bestTilt_2 : decode cX9_bestTilt 2 = .ok (.invokevirtual 102, 3) := by decide +kernel
theorem dX9_bestTilt_5 : decode cX9_bestTilt 5 = .ok (.ifCond .eq 12, 3) := by decide +kernel
theorem dX9_bestTilt_8 : decode cX9_bestTilt 8 = .ok (.iload_n 2, 1) := by decide +kernel
theorem dX9_bestTilt_9 : decode cX9_bestTilt 9 = .ok (.iconst 0, 1) := by decide +kernel
theorem dX9_bestTilt_10 : decode cX9_bestTilt 10 = .ok (.iconst 1, 1) := by decide +kernel
theorem dX9_bestTilt_11 : decode cX9_bestTilt 11 = .ok (.invokestatic 42, 3) := by decide +kernel
theorem dX9_bestTilt_14 : decode cX9_bestTilt 14 = .ok (.ifCond .ne 18, 3) := by decide +kernel
theorem dX9_bestTilt_17 : decode cX9_bestTilt 17 = .ok (.aload_n 0, 1) := by decide +kernel
theorem dX9_bestTilt_18 : decode cX9_bestTilt 18 = .ok (.iload_n 1, 1) := by decide +kernel
theorem dX9_bestTilt_19 : decode cX9_bestTilt 19 = .ok (.invokevirtual 102, 3) := by decide +kernel
theorem dX9_bestTilt_22 : decode cX9_bestTilt 22 = .ok (.ifCond .eq 8, 3) := by decide +kernel
theorem dX9_bestTilt_25 : decode cX9_bestTilt 25 = .ok (.bipush (-2), 2) := by decide +kernel
theorem dX9_bestTilt_27 : decode cX9_bestTilt 27 = .ok (.goto 4, 3) := by decide +kernel
theorem dX9_bestTilt_30 : decode cX9_bestTilt 30 = .ok (.iconst (-1), 1) := by decide +kernel
theorem dX9_bestTilt_31 : decode cX9_bestTilt 31 = .ok (.ireturn, 1) := by decide +kernel
theorem dX9_bestTilt_32 : decode cX9_bestTilt 32 = .ok (.aload_n 0, 1) := by decide +kernel
theorem dX9_bestTilt_33 : decode cX9_bestTilt 33 = .ok (.iload_n 1, 1) := by decide +kernel
theorem dX9_bestTilt_34 : decode cX9_bestTilt 34 = .ok (.iconst 2, 1) := by decide +kernel
theorem dX9_bestTilt_35 : decode cX9_bestTilt 35 = .ok (.invokevirtual 46, 3) := by decide +kernel
theorem dX9_bestTilt_38 : decode cX9_bestTilt 38 = .ok (.istore_n 3, 1) := by decide +kernel
theorem dX9_bestTilt_39 : decode cX9_bestTilt 39 = .ok (.iconst 0, 1) := by decide +kernel
theorem dX9_bestTilt_40 : decode cX9_bestTilt 40 = .ok (.istore 4, 2) := by decide +kernel
theorem dX9_bestTilt_42 : decode cX9_bestTilt 42 = .ok (.iconst (-1), 1) := by decide +kernel
theorem dX9_bestTilt_43 : decode cX9_bestTilt 43 = .ok (.istore 5, 2) := by decide +kernel
theorem dX9_bestTilt_45 : decode cX9_bestTilt 45 = .ok (.iconst 0, 1) := by decide +kernel
theorem dX9_bestTilt_46 : decode cX9_bestTilt 46 = .ok (.istore 6, 2) := by decide +kernel
theorem dX9_bestTilt_48 : decode cX9_bestTilt 48 = .ok (.iload 6, 2) := by decide +kernel
theorem dX9_bestTilt_50 : decode cX9_bestTilt 50 = .ok (.iconst 5, 1) := by decide +kernel
theorem dX9_bestTilt_51 : decode cX9_bestTilt 51 = .ok (.if_icmp .ge 55, 3) := by decide +kernel
theorem dX9_bestTilt_54 : decode cX9_bestTilt 54 = .ok (.aload_n 0, 1) := by decide +kernel
theorem dX9_bestTilt_55 : decode cX9_bestTilt 55 = .ok (.iload_n 1, 1) := by decide +kernel
theorem dX9_bestTilt_56 : decode cX9_bestTilt 56 = .ok (.iload 6, 2) := by decide +kernel
theorem dX9_bestTilt_58 : decode cX9_bestTilt 58 = .ok (.invokevirtual 108, 3) := by decide +kernel
theorem dX9_bestTilt_61 : decode cX9_bestTilt 61 = .ok (.pop, 1) := by decide +kernel
theorem dX9_bestTilt_62 : decode cX9_bestTilt 62 = .ok (.aload_n 0, 1) := by decide +kernel
theorem dX9_bestTilt_63 : decode cX9_bestTilt 63 = .ok (.invokevirtual 180, 3) := by decide +kernel
theorem dX9_bestTilt_66 : decode cX9_bestTilt 66 = .ok (.istore 7, 2) := by decide +kernel
theorem dX9_bestTilt_68 : decode cX9_bestTilt 68 = .ok (.iload 7, 2) := by decide +kernel
theorem dX9_bestTilt_70 : decode cX9_bestTilt 70 = .ok (.iload 5, 2) := by decide +kernel
theorem dX9_bestTilt_72 : decode cX9_bestTilt 72 = .ok (.if_icmp .le 8, 3) := by decide +kernel
theorem dX9_bestTilt_75 : decode cX9_bestTilt 75 = .ok (.iload 6, 2) := by decide +kernel
theorem dX9_bestTilt_77 : decode cX9_bestTilt 77 = .ok (.goto 5, 3) := by decide +kernel
theorem dX9_bestTilt_80 : decode cX9_bestTilt 80 = .ok (.iload 4, 2) := by decide +kernel
theorem dX9_bestTilt_82 : decode cX9_bestTilt 82 = .ok (.istore 4, 2) := by decide +kernel
theorem dX9_bestTilt_84 : decode cX9_bestTilt 84 = .ok (.iload 7, 2) := by decide +kernel
theorem dX9_bestTilt_86 : decode cX9_bestTilt 86 = .ok (.iload 5, 2) := by decide +kernel
theorem dX9_bestTilt_88 : decode cX9_bestTilt 88 = .ok (.if_icmp .le 8, 3) := by decide +kernel
theorem dX9_bestTilt_91 : decode cX9_bestTilt 91 = .ok (.iload 7, 2) := by decide +kernel
theorem dX9_bestTilt_93 : decode cX9_bestTilt 93 = .ok (.goto 5, 3) := by decide +kernel
theorem dX9_bestTilt_96 : decode cX9_bestTilt 96 = .ok (.iload 5, 2) := by decide +kernel
theorem dX9_bestTilt_98 : decode cX9_bestTilt 98 = .ok (.istore 5, 2) := by decide +kernel
theorem dX9_bestTilt_100 : decode cX9_bestTilt 100 = .ok (.iinc 6 1, 3) := by decide +kernel
theorem dX9_bestTilt_103 : decode cX9_bestTilt 103 = .ok (.goto (-55), 3) := by decide +kernel
theorem dX9_bestTilt_106 : decode cX9_bestTilt 106 = .ok (.aload_n 0, 1) := by decide +kernel
theorem dX9_bestTilt_107 : decode cX9_bestTilt 107 = .ok (.iload_n 1, 1) := by decide +kernel
theorem dX9_bestTilt_108 : decode cX9_bestTilt 108 = .ok (.iload_n 3, 1) := by decide +kernel
theorem dX9_bestTilt_109 : decode cX9_bestTilt 109 = .ok (.invokevirtual 108, 3) := by decide +kernel
theorem dX9_bestTilt_112 : decode cX9_bestTilt 112 = .ok (.pop, 1) := by decide +kernel
theorem dX9_bestTilt_113 : decode cX9_bestTilt 113 = .ok (.iload_n 2, 1) := by decide +kernel
theorem dX9_bestTilt_114 : decode cX9_bestTilt 114 = .ok (.ifCond .ne 8, 3) := by decide +kernel
theorem dX9_bestTilt_117 : decode cX9_bestTilt 117 = .ok (.iload 4, 2) := by decide +kernel
theorem dX9_bestTilt_119 : decode cX9_bestTilt 119 = .ok (.goto 5, 3) := by decide +kernel
theorem dX9_bestTilt_122 : decode cX9_bestTilt 122 = .ok (.iload 5, 2) := by decide +kernel
theorem dX9_bestTilt_124 : decode cX9_bestTilt 124 = .ok (.ireturn, 1) := by decide +kernel
theorem dX9_lyingAt_0 : decode cX9_lyingAt 0 = .ok (.bipush 10, 2) := by decide +kernel
theorem dX9_lyingAt_2 : decode cX9_lyingAt 2 = .ok (.iconst 5, 1) := by decide +kernel
theorem dX9_lyingAt_3 : decode cX9_lyingAt 3 = .ok (.iload_n 0, 1) := by decide +kernel
theorem dX9_lyingAt_4 : decode cX9_lyingAt 4 = .ok (.imul, 1) := by decide +kernel
theorem dX9_lyingAt_5 : decode cX9_lyingAt 5 = .ok (.iload_n 1, 1) := by decide +kernel
theorem dX9_lyingAt_6 : decode cX9_lyingAt 6 = .ok (.iadd, 1) := by decide +kernel
theorem dX9_lyingAt_7 : decode cX9_lyingAt 7 = .ok (.imul, 1) := by decide +kernel
theorem dX9_lyingAt_8 : decode cX9_lyingAt 8 = .ok (.iload_n 2, 1) := by decide +kernel
theorem dX9_lyingAt_9 : decode cX9_lyingAt 9 = .ok (.iadd, 1) := by decide +kernel
theorem dX9_lyingAt_10 : decode cX9_lyingAt 10 = .ok (.ireturn, 1) := by decide +kernel
theorem dX9_heightAt_0 : decode cX9_heightAt 0 = .ok (.bipush 10, 2) := by decide +kernel
theorem dX9_heightAt_2 : decode cX9_heightAt 2 = .ok (.bipush 6, 2) := by decide +kernel
theorem dX9_heightAt_4 : decode cX9_heightAt 4 = .ok (.iconst 5, 1) := by decide +kernel
theorem dX9_heightAt_5 : decode cX9_heightAt 5 = .ok (.iload_n 0, 1) := by decide +kernel
theorem dX9_heightAt_6 : decode cX9_heightAt 6 = .ok (.imul, 1) := by decide +kernel
theorem dX9_heightAt_7 : decode cX9_heightAt 7 = .ok (.iload_n 1, 1) := by decide +kernel
theorem dX9_heightAt_8 : decode cX9_heightAt 8 = .ok (.iadd, 1) := by decide +kernel
theorem dX9_heightAt_9 : decode cX9_heightAt 9 = .ok (.imul, 1) := by decide +kernel
theorem dX9_heightAt_10 : decode cX9_heightAt 10 = .ok (.iload_n 2, 1) := by decide +kernel
theorem dX9_heightAt_11 : decode cX9_heightAt 11 = .ok (.iadd, 1) := by decide +kernel
theorem dX9_heightAt_12 : decode cX9_heightAt 12 = .ok (.imul, 1) := by decide +kernel
theorem dX9_heightAt_13 : decode cX9_heightAt 13 = .ok (.iload_n 3, 1) := by decide +kernel
theorem dX9_heightAt_14 : decode cX9_heightAt 14 = .ok (.iadd, 1) := by decide +kernel
theorem dX9_heightAt_15 : decode cX9_heightAt 15 = .ok (.ireturn, 1) := by decide +kernel
theorem dX9_findHeights_0 : decode cX9_findHeights 0 = .ok (.iconst 0, 1) := by decide +kernel
theorem dX9_findHeights_1 : decode cX9_findHeights 1 = .ok (.istore_n 1, 1) := by decide +kernel
theorem dX9_findHeights_2 : decode cX9_findHeights 2 = .ok (.iload_n 1, 1) := by decide +kernel
theorem dX9_findHeights_3 : decode cX9_findHeights 3 = .ok (.aload_n 0, 1) := by decide +kernel
theorem dX9_findHeights_4 : decode cX9_findHeights 4 = .ok (.getfield 7, 3) := by decide +kernel
theorem dX9_findHeights_7 : decode cX9_findHeights 7 = .ok (.iconst 0, 1) := by decide +kernel
theorem dX9_findHeights_8 : decode cX9_findHeights 8 = .ok (.iaload, 1) := by decide +kernel
theorem dX9_findHeights_9 : decode cX9_findHeights 9 = .ok (.if_icmp .ge 106, 3) := by decide +kernel
theorem dX9_findHeights_12 : decode cX9_findHeights 12 = .ok (.iconst 0, 1) := by decide +kernel
theorem dX9_findHeights_13 : decode cX9_findHeights 13 = .ok (.istore_n 2, 1) := by decide +kernel
theorem dX9_findHeights_14 : decode cX9_findHeights 14 = .ok (.iload_n 2, 1) := by decide +kernel
theorem dX9_findHeights_15 : decode cX9_findHeights 15 = .ok (.iconst 5, 1) := by decide +kernel
theorem dX9_findHeights_16 : decode cX9_findHeights 16 = .ok (.if_icmp .ge 93, 3) := by decide +kernel
theorem dX9_findHeights_19 : decode cX9_findHeights 19 = .ok (.iconst 0, 1) := by decide +kernel
theorem dX9_findHeights_20 : decode cX9_findHeights 20 = .ok (.istore_n 3, 1) := by decide +kernel
theorem dX9_findHeights_21 : decode cX9_findHeights 21 = .ok (.iload_n 3, 1) := by decide +kernel
theorem dX9_findHeights_22 : decode cX9_findHeights 22 = .ok (.bipush 10, 2) := by decide +kernel
theorem dX9_findHeights_24 : decode cX9_findHeights 24 = .ok (.if_icmp .ge 79, 3) := by decide +kernel
theorem dX9_findHeights_27 : decode cX9_findHeights 27 = .ok (.aload_n 0, 1) := by decide +kernel
theorem dX9_findHeights_28 : decode cX9_findHeights 28 = .ok (.getfield 25, 3) := by decide +kernel
theorem dX9_findHeights_31 : decode cX9_findHeights 31 = .ok (.iload_n 1, 1) := by decide +kernel
theorem dX9_findHeights_32 : decode cX9_findHeights 32 = .ok (.iload_n 2, 1) := by decide +kernel
theorem dX9_findHeights_33 : decode cX9_findHeights 33 = .ok (.iload_n 3, 1) := by decide +kernel
theorem dX9_findHeights_34 : decode cX9_findHeights 34 = .ok (.invokestatic 187, 3) := by decide +kernel
theorem dX9_findHeights_37 : decode cX9_findHeights 37 = .ok (.aload_n 0, 1) := by decide +kernel
theorem dX9_findHeights_38 : decode cX9_findHeights 38 = .ok (.iload_n 1, 1) := by decide +kernel
theorem dX9_findHeights_39 : decode cX9_findHeights 39 = .ok (.iload_n 2, 1) := by decide +kernel
theorem dX9_findHeights_40 : decode cX9_findHeights 40 = .ok (.iload_n 3, 1) := by decide +kernel
theorem dX9_findHeights_41 : decode cX9_findHeights 41 = .ok (.invokevirtual 69, 3) := by decide +kernel
theorem dX9_findHeights_44 : decode cX9_findHeights 44 = .ok (.iastore, 1) := by decide +kernel
theorem dX9_findHeights_45 : decode cX9_findHeights 45 = .ok (.iconst 0, 1) := by decide +kernel
theorem dX9_findHeights_46 : decode cX9_findHeights 46 = .ok (.istore 4, 2) := by decide +kernel
theorem dX9_findHeights_48 : decode cX9_findHeights 48 = .ok (.iload 4, 2) := by decide +kernel
theorem dX9_findHeights_50 : decode cX9_findHeights 50 = .ok (.aload_n 0, 1) := by decide +kernel
theorem dX9_findHeights_51 : decode cX9_findHeights 51 = .ok (.getfield 7, 3) := by decide +kernel
theorem dX9_findHeights_54 : decode cX9_findHeights 54 = .ok (.iconst 0, 1) := by decide +kernel
theorem dX9_findHeights_55 : decode cX9_findHeights 55 = .ok (.iaload, 1) := by decide +kernel
theorem dX9_findHeights_56 : decode cX9_findHeights 56 = .ok (.if_icmp .ge 41, 3) := by decide +kernel
theorem dX9_findHeights_59 : decode cX9_findHeights 59 = .ok (.aload_n 0, 1) := by decide +kernel
theorem dX9_findHeights_60 : decode cX9_findHeights 60 = .ok (.getfield 28, 3) := by decide +kernel
theorem dX9_findHeights_63 : decode cX9_findHeights 63 = .ok (.iload_n 1, 1) := by decide +kernel
theorem dX9_findHeights_64 : decode cX9_findHeights 64 = .ok (.iload_n 2, 1) := by decide +kernel
theorem dX9_findHeights_65 : decode cX9_findHeights 65 = .ok (.iload 4, 2) := by decide +kernel
theorem dX9_findHeights_67 : decode cX9_findHeights 67 = .ok (.iload_n 3, 1) := by decide +kernel
theorem dX9_findHeights_68 : decode cX9_findHeights 68 = .ok (.invokestatic 190, 3) := by decide +kernel
theorem dX9_findHeights_71 : decode cX9_findHeights 71 = .ok (.iload_n 1, 1) := by decide +kernel
theorem dX9_findHeights_72 : decode cX9_findHeights 72 = .ok (.iload 4, 2) := by decide +kernel
theorem dX9_findHeights_74 : decode cX9_findHeights 74 = .ok (.if_icmp .ne 7, 3) := by decide +kernel
theorem dX9_findHeights_77 : decode cX9_findHeights 77 = .ok (.iconst 0, 1) := by decide +kernel
theorem dX9_findHeights_78 : decode cX9_findHeights 78 = .ok (.goto 12, 3) := by decide +kernel
theorem dX9_findHeights_81 : decode cX9_findHeights 81 = .ok (.aload_n 0, 1) := by decide +kernel
theorem dX9_findHeights_82 : decode cX9_findHeights 82 = .ok (.iload_n 1, 1) := by decide +kernel
theorem dX9_findHeights_83 : decode cX9_findHeights 83 = .ok (.iload_n 2, 1) := by decide +kernel
theorem dX9_findHeights_84 : decode cX9_findHeights 84 = .ok (.iload 4, 2) := by decide +kernel
theorem dX9_findHeights_86 : decode cX9_findHeights 86 = .ok (.iload_n 3, 1) := by decide +kernel
theorem dX9_findHeights_87 : decode cX9_findHeights 87 = .ok (.invokevirtual 54, 3) := by decide +kernel
theorem dX9_findHeights_90 : decode cX9_findHeights 90 = .ok (.iastore, 1) := by decide +kernel
theorem dX9_findHeights_91 : decode cX9_findHeights 91 = .ok (.iinc 4 1, 3) := by decide +kernel
theorem dX9_findHeights_94 : decode cX9_findHeights 94 = .ok (.goto (-46), 3) := by decide +kernel
theorem dX9_findHeights_97 : decode cX9_findHeights 97 = .ok (.iinc 3 1, 3) := by decide +kernel
theorem dX9_findHeights_100 : decode cX9_findHeights 100 = .ok (.goto (-79), 3) := by decide +kernel
theorem dX9_findHeights_103 : decode cX9_findHeights 103 = .ok (.iinc 2 1, 3) := by decide +kernel
theorem dX9_findHeights_106 : decode cX9_findHeights 106 = .ok (.goto (-92), 3) := by decide +kernel
theorem dX9_findHeights_109 : decode cX9_findHeights 109 = .ok (.iinc 1 1, 3) := by decide +kernel
theorem dX9_findHeights_112 : decode cX9_findHeights 112 = .ok (.goto (-110), 3) := by decide +kernel
theorem dX9_findHeights_115 : decode cX9_findHeights 115 = .ok (.return_, 1) := by decide +kernel
theorem dX9_yieldsBy_0 : decode cX9_yieldsBy 0 = .ok (.iconst 0, 1) := by decide +kernel
theorem dX9_yieldsBy_1 : decode cX9_yieldsBy 1 = .ok (.istore_n 1, 1) := by decide +kernel
theorem dX9_yieldsBy_2 : decode cX9_yieldsBy 2 = .ok (.iconst 0, 1) := by decide +kernel
theorem dX9_yieldsBy_3 : decode cX9_yieldsBy 3 = .ok (.istore_n 2, 1) := by decide +kernel
theorem dX9_yieldsBy_4 : decode cX9_yieldsBy 4 = .ok (.iload_n 2, 1) := by decide +kernel
theorem dX9_yieldsBy_5 : decode cX9_yieldsBy 5 = .ok (.bipush 10, 2) := by decide +kernel
theorem dX9_yieldsBy_7 : decode cX9_yieldsBy 7 = .ok (.if_icmp .ge 152, 3) := by decide +kernel
theorem dX9_yieldsBy_10 : decode cX9_yieldsBy 10 = .ok (.iconst 0, 1) := by decide +kernel
theorem dX9_yieldsBy_11 : decode cX9_yieldsBy 11 = .ok (.istore_n 3, 1) := by decide +kernel
theorem dX9_yieldsBy_12 : decode cX9_yieldsBy 12 = .ok (.iload_n 3, 1) := by decide +kernel
theorem dX9_yieldsBy_13 : decode cX9_yieldsBy 13 = .ok (.aload_n 0, 1) := by decide +kernel
theorem dX9_yieldsBy_14 : decode cX9_yieldsBy 14 = .ok (.getfield 7, 3) := by decide +kernel
theorem dX9_yieldsBy_17 : decode cX9_yieldsBy 17 = .ok (.iconst 0, 1) := by decide +kernel
theorem dX9_yieldsBy_18 : decode cX9_yieldsBy 18 = .ok (.iaload, 1) := by decide +kernel
theorem dX9_yieldsBy_19 : decode cX9_yieldsBy 19 = .ok (.if_icmp .ge 134, 3) := by decide +kernel
theorem dX9_yieldsBy_22 : decode cX9_yieldsBy 22 = .ok (.iconst 0, 1) := by decide +kernel
theorem dX9_yieldsBy_23 : decode cX9_yieldsBy 23 = .ok (.istore 4, 2) := by decide +kernel
theorem dX9_yieldsBy_25 : decode cX9_yieldsBy 25 = .ok (.iconst 0, 1) := by decide +kernel
theorem dX9_yieldsBy_26 : decode cX9_yieldsBy 26 = .ok (.istore 5, 2) := by decide +kernel
theorem dX9_yieldsBy_28 : decode cX9_yieldsBy 28 = .ok (.iload 5, 2) := by decide +kernel
theorem dX9_yieldsBy_30 : decode cX9_yieldsBy 30 = .ok (.aload_n 0, 1) := by decide +kernel
theorem dX9_yieldsBy_31 : decode cX9_yieldsBy 31 = .ok (.getfield 7, 3) := by decide +kernel
theorem dX9_yieldsBy_34 : decode cX9_yieldsBy 34 = .ok (.iconst 0, 1) := by decide +kernel
theorem dX9_yieldsBy_35 : decode cX9_yieldsBy 35 = .ok (.iaload, 1) := by decide +kernel
theorem dX9_yieldsBy_36 : decode cX9_yieldsBy 36 = .ok (.if_icmp .ge 57, 3) := by decide +kernel
theorem dX9_yieldsBy_39 : decode cX9_yieldsBy 39 = .ok (.aload_n 0, 1) := by decide +kernel
theorem dX9_yieldsBy_40 : decode cX9_yieldsBy 40 = .ok (.getfield 28, 3) := by decide +kernel
theorem dX9_yieldsBy_43 : decode cX9_yieldsBy 43 = .ok (.iload 5, 2) := by decide +kernel
theorem dX9_yieldsBy_45 : decode cX9_yieldsBy 45 = .ok (.aload_n 0, 1) := by decide +kernel
theorem dX9_yieldsBy_46 : decode cX9_yieldsBy 46 = .ok (.getfield 25, 3) := by decide +kernel
theorem dX9_yieldsBy_49 : decode cX9_yieldsBy 49 = .ok (.iload 5, 2) := by decide +kernel
theorem dX9_yieldsBy_51 : decode cX9_yieldsBy 51 = .ok (.aload_n 0, 1) := by decide +kernel
theorem dX9_yieldsBy_52 : decode cX9_yieldsBy 52 = .ok (.getfield 31, 3) := by decide +kernel
theorem dX9_yieldsBy_55 : decode cX9_yieldsBy 55 = .ok (.iload 5, 2) := by decide +kernel
theorem dX9_yieldsBy_57 : decode cX9_yieldsBy 57 = .ok (.iaload, 1) := by decide +kernel
theorem dX9_yieldsBy_58 : decode cX9_yieldsBy 58 = .ok (.iload_n 2, 1) := by decide +kernel
theorem dX9_yieldsBy_59 : decode cX9_yieldsBy 59 = .ok (.invokestatic 187, 3) := by decide +kernel
theorem dX9_yieldsBy_62 : decode cX9_yieldsBy 62 = .ok (.iaload, 1) := by decide +kernel
theorem dX9_yieldsBy_63 : decode cX9_yieldsBy 63 = .ok (.iload_n 3, 1) := by decide +kernel
theorem dX9_yieldsBy_64 : decode cX9_yieldsBy 64 = .ok (.iload_n 2, 1) := by decide +kernel
theorem dX9_yieldsBy_65 : decode cX9_yieldsBy 65 = .ok (.invokestatic 190, 3) := by decide +kernel
theorem dX9_yieldsBy_68 : decode cX9_yieldsBy 68 = .ok (.iaload, 1) := by decide +kernel
theorem dX9_yieldsBy_69 : decode cX9_yieldsBy 69 = .ok (.istore 6, 2) := by decide +kernel
theorem dX9_yieldsBy_71 : decode cX9_yieldsBy 71 = .ok (.iload 6, 2) := by decide +kernel
theorem dX9_yieldsBy_73 : decode cX9_yieldsBy 73 = .ok (.iload 4, 2) := by decide +kernel
theorem dX9_yieldsBy_75 : decode cX9_yieldsBy 75 = .ok (.if_icmp .le 8, 3) := by decide +kernel
theorem dX9_yieldsBy_78 : decode cX9_yieldsBy 78 = .ok (.iload 6, 2) := by decide +kernel
theorem dX9_yieldsBy_80 : decode cX9_yieldsBy 80 = .ok (.goto 5, 3) := by decide +kernel
theorem dX9_yieldsBy_83 : decode cX9_yieldsBy 83 = .ok (.iload 4, 2) := by decide +kernel
theorem dX9_yieldsBy_85 : decode cX9_yieldsBy 85 = .ok (.istore 4, 2) := by decide +kernel
theorem dX9_yieldsBy_87 : decode cX9_yieldsBy 87 = .ok (.iinc 5 1, 3) := by decide +kernel
theorem dX9_yieldsBy_90 : decode cX9_yieldsBy 90 = .ok (.goto (-62), 3) := by decide +kernel
theorem dX9_yieldsBy_93 : decode cX9_yieldsBy 93 = .ok (.aload_n 0, 1) := by decide +kernel
theorem dX9_yieldsBy_94 : decode cX9_yieldsBy 94 = .ok (.iload_n 3, 1) := by decide +kernel
theorem dX9_yieldsBy_95 : decode cX9_yieldsBy 95 = .ok (.iconst 1, 1) := by decide +kernel
theorem dX9_yieldsBy_96 : decode cX9_yieldsBy 96 = .ok (.invokevirtual 46, 3) := by decide +kernel
theorem dX9_yieldsBy_99 : decode cX9_yieldsBy 99 = .ok (.aload_n 0, 1) := by decide +kernel
theorem dX9_yieldsBy_100 : decode cX9_yieldsBy 100 = .ok (.getfield 25, 3) := by decide +kernel
theorem dX9_yieldsBy_103 : decode cX9_yieldsBy 103 = .ok (.iload_n 3, 1) := by decide +kernel
theorem dX9_yieldsBy_104 : decode cX9_yieldsBy 104 = .ok (.aload_n 0, 1) := by decide +kernel
theorem dX9_yieldsBy_105 : decode cX9_yieldsBy 105 = .ok (.getfield 31, 3) := by decide +kernel
theorem dX9_yieldsBy_108 : decode cX9_yieldsBy 108 = .ok (.iload_n 3, 1) := by decide +kernel
theorem dX9_yieldsBy_109 : decode cX9_yieldsBy 109 = .ok (.iaload, 1) := by decide +kernel
theorem dX9_yieldsBy_110 : decode cX9_yieldsBy 110 = .ok (.iload_n 2, 1) := by decide +kernel
theorem dX9_yieldsBy_111 : decode cX9_yieldsBy 111 = .ok (.invokestatic 187, 3) := by decide +kernel
theorem dX9_yieldsBy_114 : decode cX9_yieldsBy 114 = .ok (.iaload, 1) := by decide +kernel
theorem dX9_yieldsBy_115 : decode cX9_yieldsBy 115 = .ok (.imul, 1) := by decide +kernel
theorem dX9_yieldsBy_116 : decode cX9_yieldsBy 116 = .ok (.iload 4, 2) := by decide +kernel
theorem dX9_yieldsBy_118 : decode cX9_yieldsBy 118 = .ok (.isub, 1) := by decide +kernel
theorem dX9_yieldsBy_119 : decode cX9_yieldsBy 119 = .ok (.istore 5, 2) := by decide +kernel
theorem dX9_yieldsBy_121 : decode cX9_yieldsBy 121 = .ok (.iload_n 1, 1) := by decide +kernel
theorem dX9_yieldsBy_122 : decode cX9_yieldsBy 122 = .ok (.aload_n 0, 1) := by decide +kernel
theorem dX9_yieldsBy_123 : decode cX9_yieldsBy 123 = .ok (.iload_n 3, 1) := by decide +kernel
theorem dX9_yieldsBy_124 : decode cX9_yieldsBy 124 = .ok (.iconst 1, 1) := by decide +kernel
theorem dX9_yieldsBy_125 : decode cX9_yieldsBy 125 = .ok (.invokevirtual 46, 3) := by decide +kernel
theorem dX9_yieldsBy_128 : decode cX9_yieldsBy 128 = .ok (.iload 5, 2) := by decide +kernel
theorem dX9_yieldsBy_130 : decode cX9_yieldsBy 130 = .ok (.ifCond .le 13, 3) := by decide +kernel
theorem dX9_yieldsBy_133 : decode cX9_yieldsBy 133 = .ok (.iload 5, 2) := by decide +kernel
theorem dX9_yieldsBy_135 : decode cX9_yieldsBy 135 = .ok (.iload_n 2, 1) := by decide +kernel
theorem dX9_yieldsBy_136 : decode cX9_yieldsBy 136 = .ok (.invokestatic 87, 3) := by decide +kernel
theorem dX9_yieldsBy_139 : decode cX9_yieldsBy 139 = .ok (.imul, 1) := by decide +kernel
theorem dX9_yieldsBy_140 : decode cX9_yieldsBy 140 = .ok (.goto 4, 3) := by decide +kernel
theorem dX9_yieldsBy_143 : decode cX9_yieldsBy 143 = .ok (.iconst 0, 1) := by decide +kernel
theorem dX9_yieldsBy_144 : decode cX9_yieldsBy 144 = .ok (.iadd, 1) := by decide +kernel
theorem dX9_yieldsBy_145 : decode cX9_yieldsBy 145 = .ok (.iadd, 1) := by decide +kernel
theorem dX9_yieldsBy_146 : decode cX9_yieldsBy 146 = .ok (.istore_n 1, 1) := by decide +kernel
theorem dX9_yieldsBy_147 : decode cX9_yieldsBy 147 = .ok (.iinc 3 1, 3) := by decide +kernel
theorem dX9_yieldsBy_150 : decode cX9_yieldsBy 150 = .ok (.goto (-138), 3) := by decide +kernel
theorem dX9_yieldsBy_153 : decode cX9_yieldsBy 153 = .ok (.iinc 2 1, 3) := by decide +kernel
theorem dX9_yieldsBy_156 : decode cX9_yieldsBy 156 = .ok (.goto (-152), 3) := by decide +kernel
theorem dX9_yieldsBy_159 : decode cX9_yieldsBy 159 = .ok (.iload_n 1, 1) := by decide +kernel
theorem dX9_yieldsBy_160 : decode cX9_yieldsBy 160 = .ok (.ireturn, 1) := by decide +kernel
theorem dX9_bestTilts_0 : decode cX9_bestTilts 0 = .ok (.aload_n 0, 1) := by decide +kernel
theorem dX9_bestTilts_1 : decode cX9_bestTilts 1 = .ok (.getfield 7, 3) := by decide +kernel
theorem dX9_bestTilts_4 : decode cX9_bestTilts 4 = .ok (.iconst 0, 1) := by decide +kernel
theorem dX9_bestTilts_5 : decode cX9_bestTilts 5 = .ok (.iaload, 1) := by decide +kernel
theorem dX9_bestTilts_6 : decode cX9_bestTilts 6 = .ok (.istore_n 2, 1) := by decide +kernel
theorem dX9_bestTilts_7 : decode cX9_bestTilts 7 = .ok (.iload_n 1, 1) := by decide +kernel
theorem dX9_bestTilts_8 : decode cX9_bestTilts 8 = .ok (.bipush 9, 2) := by decide +kernel
theorem dX9_bestTilts_10 : decode cX9_bestTilts 10 = .ok (.if_icmp .eq 17, 3) := by decide +kernel
theorem dX9_bestTilts_13 : decode cX9_bestTilts 13 = .ok (.iload_n 1, 1) := by decide +kernel
theorem dX9_bestTilts_14 : decode cX9_bestTilts 14 = .ok (.iconst 0, 1) := by decide +kernel
theorem dX9_bestTilts_15 : decode cX9_bestTilts 15 = .ok (.iload_n 2, 1) := by decide +kernel
theorem dX9_bestTilts_16 : decode cX9_bestTilts 16 = .ok (.iconst 1, 1) := by decide +kernel
theorem dX9_bestTilts_17 : decode cX9_bestTilts 17 = .ok (.isub, 1) := by decide +kernel
theorem dX9_bestTilts_18 : decode cX9_bestTilts 18 = .ok (.invokestatic 42, 3) := by decide +kernel
theorem dX9_bestTilts_21 : decode cX9_bestTilts 21 = .ok (.ifCond .ne 6, 3) := by decide +kernel
theorem dX9_bestTilts_24 : decode cX9_bestTilts 24 = .ok (.bipush (-2), 2) := by decide +kernel
theorem dX9_bestTilts_26 : decode cX9_bestTilts 26 = .ok (.ireturn, 1) := by decide +kernel
theorem dX9_bestTilts_27 : decode cX9_bestTilts 27 = .ok (.aload_n 0, 1) := by decide +kernel
theorem dX9_bestTilts_28 : decode cX9_bestTilts 28 = .ok (.invokevirtual 193, 3) := by decide +kernel
theorem dX9_bestTilts_31 : decode cX9_bestTilts 31 = .ok (.iconst 1, 1) := by decide +kernel
theorem dX9_bestTilts_32 : decode cX9_bestTilts 32 = .ok (.istore_n 3, 1) := by decide +kernel
theorem dX9_bestTilts_33 : decode cX9_bestTilts 33 = .ok (.iconst 0, 1) := by decide +kernel
theorem dX9_bestTilts_34 : decode cX9_bestTilts 34 = .ok (.istore 4, 2) := by decide +kernel
theorem dX9_bestTilts_36 : decode cX9_bestTilts 36 = .ok (.iload 4, 2) := by decide +kernel
theorem dX9_bestTilts_38 : decode cX9_bestTilts 38 = .ok (.iload_n 2, 1) := by decide +kernel
theorem dX9_bestTilts_39 : decode cX9_bestTilts 39 = .ok (.if_icmp .ge 13, 3) := by decide +kernel
theorem dX9_bestTilts_42 : decode cX9_bestTilts 42 = .ok (.iload_n 3, 1) := by decide +kernel
theorem dX9_bestTilts_43 : decode cX9_bestTilts 43 = .ok (.iconst 5, 1) := by decide +kernel
theorem dX9_bestTilts_44 : decode cX9_bestTilts 44 = .ok (.imul, 1) := by decide +kernel
theorem dX9_bestTilts_45 : decode cX9_bestTilts 45 = .ok (.istore_n 3, 1) := by decide +kernel
theorem dX9_bestTilts_46 : decode cX9_bestTilts 46 = .ok (.iinc 4 1, 3) := by decide +kernel
theorem dX9_bestTilts_49 : decode cX9_bestTilts 49 = .ok (.goto (-13), 3) := by decide +kernel
theorem dX9_bestTilts_52 : decode cX9_bestTilts 52 = .ok (.iconst 0, 1) := by decide +kernel
theorem dX9_bestTilts_53 : decode cX9_bestTilts 53 = .ok (.istore 4, 2) := by decide +kernel
theorem dX9_bestTilts_55 : decode cX9_bestTilts 55 = .ok (.iconst (-1), 1) := by decide +kernel
theorem dX9_bestTilts_56 : decode cX9_bestTilts 56 = .ok (.istore 5, 2) := by decide +kernel
theorem dX9_bestTilts_58 : decode cX9_bestTilts 58 = .ok (.iconst 0, 1) := by decide +kernel
theorem dX9_bestTilts_59 : decode cX9_bestTilts 59 = .ok (.istore 6, 2) := by decide +kernel
theorem dX9_bestTilts_61 : decode cX9_bestTilts 61 = .ok (.iload 6, 2) := by decide +kernel
theorem dX9_bestTilts_63 : decode cX9_bestTilts 63 = .ok (.iload_n 3, 1) := by decide +kernel
theorem dX9_bestTilts_64 : decode cX9_bestTilts 64 = .ok (.if_icmp .ge 84, 3) := by decide +kernel
theorem dX9_bestTilts_67 : decode cX9_bestTilts 67 = .ok (.iload 6, 2) := by decide +kernel
theorem dX9_bestTilts_69 : decode cX9_bestTilts 69 = .ok (.istore 7, 2) := by decide +kernel
theorem dX9_bestTilts_71 : decode cX9_bestTilts 71 = .ok (.iload_n 2, 1) := by decide +kernel
theorem dX9_bestTilts_72 : decode cX9_bestTilts 72 = .ok (.iconst 1, 1) := by decide +kernel
theorem dX9_bestTilts_73 : decode cX9_bestTilts 73 = .ok (.isub, 1) := by decide +kernel
theorem dX9_bestTilts_74 : decode cX9_bestTilts 74 = .ok (.istore 8, 2) := by decide +kernel
theorem dX9_bestTilts_76 : decode cX9_bestTilts 76 = .ok (.iload 8, 2) := by decide +kernel
theorem dX9_bestTilts_78 : decode cX9_bestTilts 78 = .ok (.ifCond .lt 26, 3) := by decide +kernel
theorem dX9_bestTilts_81 : decode cX9_bestTilts 81 = .ok (.aload_n 0, 1) := by decide +kernel
theorem dX9_bestTilts_82 : decode cX9_bestTilts 82 = .ok (.getfield 31, 3) := by decide +kernel
theorem dX9_bestTilts_85 : decode cX9_bestTilts 85 = .ok (.iload 8, 2) := by decide +kernel
theorem dX9_bestTilts_87 : decode cX9_bestTilts 87 = .ok (.iload 7, 2) := by decide +kernel
theorem dX9_bestTilts_89 : decode cX9_bestTilts 89 = .ok (.iconst 5, 1) := by decide +kernel
theorem dX9_bestTilts_90 : decode cX9_bestTilts 90 = .ok (.irem, 1) := by decide +kernel
theorem dX9_bestTilts_91 : decode cX9_bestTilts 91 = .ok (.iastore, 1) := by decide +kernel
theorem dX9_bestTilts_92 : decode cX9_bestTilts 92 = .ok (.iload 7, 2) := by decide +kernel
theorem dX9_bestTilts_94 : decode cX9_bestTilts 94 = .ok (.iconst 5, 1) := by decide +kernel
theorem dX9_bestTilts_95 : decode cX9_bestTilts 95 = .ok (.idiv, 1) := by decide +kernel
theorem dX9_bestTilts_96 : decode cX9_bestTilts 96 = .ok (.istore 7, 2) := by decide +kernel
theorem dX9_bestTilts_98 : decode cX9_bestTilts 98 = .ok (.iinc 8 (-1), 3) := by decide +kernel
theorem dX9_bestTilts_101 : decode cX9_bestTilts 101 = .ok (.goto (-25), 3) := by decide +kernel
theorem dX9_bestTilts_104 : decode cX9_bestTilts 104 = .ok (.aload_n 0, 1) := by decide +kernel
theorem dX9_bestTilts_105 : decode cX9_bestTilts 105 = .ok (.invokevirtual 196, 3) := by decide +kernel
theorem dX9_bestTilts_108 : decode cX9_bestTilts 108 = .ok (.istore 8, 2) := by decide +kernel
theorem dX9_bestTilts_110 : decode cX9_bestTilts 110 = .ok (.iload 8, 2) := by decide +kernel
theorem dX9_bestTilts_112 : decode cX9_bestTilts 112 = .ok (.iload 5, 2) := by decide +kernel
theorem dX9_bestTilts_114 : decode cX9_bestTilts 114 = .ok (.if_icmp .le 8, 3) := by decide +kernel
theorem dX9_bestTilts_117 : decode cX9_bestTilts 117 = .ok (.iload 6, 2) := by decide +kernel
theorem dX9_bestTilts_119 : decode cX9_bestTilts 119 = .ok (.goto 5, 3) := by decide +kernel
theorem dX9_bestTilts_122 : decode cX9_bestTilts 122 = .ok (.iload 4, 2) := by decide +kernel
theorem dX9_bestTilts_124 : decode cX9_bestTilts 124 = .ok (.istore 4, 2) := by decide +kernel
theorem dX9_bestTilts_126 : decode cX9_bestTilts 126 = .ok (.iload 8, 2) := by decide +kernel
theorem dX9_bestTilts_128 : decode cX9_bestTilts 128 = .ok (.iload 5, 2) := by decide +kernel
theorem dX9_bestTilts_130 : decode cX9_bestTilts 130 = .ok (.if_icmp .le 8, 3) := by decide +kernel
theorem dX9_bestTilts_133 : decode cX9_bestTilts 133 = .ok (.iload 8, 2) := by decide +kernel
theorem dX9_bestTilts_135 : decode cX9_bestTilts 135 = .ok (.goto 5, 3) := by decide +kernel
theorem dX9_bestTilts_138 : decode cX9_bestTilts 138 = .ok (.iload 5, 2) := by decide +kernel
theorem dX9_bestTilts_140 : decode cX9_bestTilts 140 = .ok (.istore 5, 2) := by decide +kernel
theorem dX9_bestTilts_142 : decode cX9_bestTilts 142 = .ok (.iinc 6 1, 3) := by decide +kernel
theorem dX9_bestTilts_145 : decode cX9_bestTilts 145 = .ok (.goto (-84), 3) := by decide +kernel
theorem dX9_bestTilts_148 : decode cX9_bestTilts 148 = .ok (.iload_n 2, 1) := by decide +kernel
theorem dX9_bestTilts_149 : decode cX9_bestTilts 149 = .ok (.iconst 1, 1) := by decide +kernel
theorem dX9_bestTilts_150 : decode cX9_bestTilts 150 = .ok (.isub, 1) := by decide +kernel
theorem dX9_bestTilts_151 : decode cX9_bestTilts 151 = .ok (.istore 6, 2) := by decide +kernel
theorem dX9_bestTilts_153 : decode cX9_bestTilts 153 = .ok (.iload 6, 2) := by decide +kernel
theorem dX9_bestTilts_155 : decode cX9_bestTilts 155 = .ok (.iload_n 1, 1) := by decide +kernel
theorem dX9_bestTilts_156 : decode cX9_bestTilts 156 = .ok (.if_icmp .le 21, 3) := by decide +kernel
theorem dX9_bestTilts_159 : decode cX9_bestTilts 159 = .ok (.iload_n 1, 1) := by decide +kernel
theorem dX9_bestTilts_160 : decode cX9_bestTilts 160 = .ok (.bipush 9, 2) := by decide +kernel
theorem dX9_bestTilts_162 : decode cX9_bestTilts 162 = .ok (.if_icmp .eq 15, 3) := by decide +kernel
theorem dX9_bestTilts_165 : decode cX9_bestTilts 165 = .ok (.iload 4, 2) := by decide +kernel
theorem dX9_bestTilts_167 : decode cX9_bestTilts 167 = .ok (.iconst 5, 1) := by decide +kernel
theorem dX9_bestTilts_168 : decode cX9_bestTilts 168 = .ok (.idiv, 1) := by decide +kernel
theorem dX9_bestTilts_169 : decode cX9_bestTilts 169 = .ok (.istore 4, 2) := by decide +kernel
theorem dX9_bestTilts_171 : decode cX9_bestTilts 171 = .ok (.iinc 6 (-1), 3) := by decide +kernel
theorem dX9_bestTilts_174 : decode cX9_bestTilts 174 = .ok (.goto (-21), 3) := by decide +kernel
theorem dX9_bestTilts_177 : decode cX9_bestTilts 177 = .ok (.iload_n 1, 1) := by decide +kernel
theorem dX9_bestTilts_178 : decode cX9_bestTilts 178 = .ok (.bipush 9, 2) := by decide +kernel
theorem dX9_bestTilts_180 : decode cX9_bestTilts 180 = .ok (.if_icmp .ne 8, 3) := by decide +kernel
theorem dX9_bestTilts_183 : decode cX9_bestTilts 183 = .ok (.iload 5, 2) := by decide +kernel
theorem dX9_bestTilts_185 : decode cX9_bestTilts 185 = .ok (.goto 7, 3) := by decide +kernel
theorem dX9_bestTilts_188 : decode cX9_bestTilts 188 = .ok (.iload 4, 2) := by decide +kernel
theorem dX9_bestTilts_190 : decode cX9_bestTilts 190 = .ok (.iconst 5, 1) := by decide +kernel
theorem dX9_bestTilts_191 : decode cX9_bestTilts 191 = .ok (.irem, 1) := by decide +kernel
theorem dX9_bestTilts_192 : decode cX9_bestTilts 192 = .ok (.ireturn, 1) := by decide +kernel
theorem dX9_put_0 : decode cX9_put 0 = .ok (.iconst 0, 1) := by decide +kernel
theorem dX9_put_1 : decode cX9_put 1 = .ok (.istore_n 3, 1) := by decide +kernel
theorem dX9_put_2 : decode cX9_put 2 = .ok (.lload_n 1, 1) := by decide +kernel
theorem dX9_put_3 : decode cX9_put 3 = .ok (.lstore 4, 2) := by decide +kernel
theorem dX9_put_5 : decode cX9_put 5 = .ok (.iconst 1, 1) := by decide +kernel
theorem dX9_put_6 : decode cX9_put 6 = .ok (.istore 6, 2) := by decide +kernel
theorem dX9_put_8 : decode cX9_put 8 = .ok (.iload_n 3, 1) := by decide +kernel
theorem dX9_put_9 : decode cX9_put 9 = .ok (.bipush 8, 2) := by decide +kernel
theorem dX9_put_11 : decode cX9_put 11 = .ok (.if_icmp .ge 56, 3) := by decide +kernel
theorem dX9_put_14 : decode cX9_put 14 = .ok (.lload 4, 2) := by decide +kernel
theorem dX9_put_16 : decode cX9_put 16 = .ok (.ldc2_w 199, 3) := by decide +kernel
theorem dX9_put_19 : decode cX9_put 19 = .ok (.land, 1) := by decide +kernel
theorem dX9_put_20 : decode cX9_put 20 = .ok (.lconst 0, 1) := by decide +kernel
theorem dX9_put_21 : decode cX9_put 21 = .ok (.lcmp, 1) := by decide +kernel
theorem dX9_put_22 : decode cX9_put 22 = .ok (.ifCond .eq 45, 3) := by decide +kernel
theorem dX9_put_25 : decode cX9_put 25 = .ok (.iload 6, 2) := by decide +kernel
theorem dX9_put_27 : decode cX9_put 27 = .ok (.ifCond .eq 24, 3) := by decide +kernel
theorem dX9_put_30 : decode cX9_put 30 = .ok (.lload 4, 2) := by decide +kernel
theorem dX9_put_32 : decode cX9_put 32 = .ok (.ldc2_w 199, 3) := by decide +kernel
theorem dX9_put_35 : decode cX9_put 35 = .ok (.land, 1) := by decide +kernel
theorem dX9_put_36 : decode cX9_put 36 = .ok (.l2i, 1) := by decide +kernel
theorem dX9_put_37 : decode cX9_put 37 = .ok (.bipush 33, 2) := by decide +kernel
theorem dX9_put_39 : decode cX9_put 39 = .ok (.bipush 126, 2) := by decide +kernel
theorem dX9_put_41 : decode cX9_put 41 = .ok (.invokestatic 42, 3) := by decide +kernel
theorem dX9_put_44 : decode cX9_put 44 = .ok (.ifCond .eq 7, 3) := by decide +kernel
theorem dX9_put_47 : decode cX9_put 47 = .ok (.iconst 1, 1) := by decide +kernel
theorem dX9_put_48 : decode cX9_put 48 = .ok (.goto 4, 3) := by decide +kernel
theorem dX9_put_51 : decode cX9_put 51 = .ok (.iconst 0, 1) := by decide +kernel
theorem dX9_put_52 : decode cX9_put 52 = .ok (.istore 6, 2) := by decide +kernel
theorem dX9_put_54 : decode cX9_put 54 = .ok (.lload 4, 2) := by decide +kernel
theorem dX9_put_56 : decode cX9_put 56 = .ok (.bipush 8, 2) := by decide +kernel
theorem dX9_put_58 : decode cX9_put 58 = .ok (.lushr, 1) := by decide +kernel
theorem dX9_put_59 : decode cX9_put 59 = .ok (.lstore 4, 2) := by decide +kernel
theorem dX9_put_61 : decode cX9_put 61 = .ok (.iinc 3 1, 3) := by decide +kernel
theorem dX9_put_64 : decode cX9_put 64 = .ok (.goto (-56), 3) := by decide +kernel
theorem dX9_put_67 : decode cX9_put 67 = .ok (.iload_n 3, 1) := by decide +kernel
theorem dX9_put_68 : decode cX9_put 68 = .ok (.ifCond .eq 15, 3) := by decide +kernel
theorem dX9_put_71 : decode cX9_put 71 = .ok (.iload 6, 2) := by decide +kernel
theorem dX9_put_73 : decode cX9_put 73 = .ok (.ifCond .eq 10, 3) := by decide +kernel
theorem dX9_put_76 : decode cX9_put 76 = .ok (.lload 4, 2) := by decide +kernel
theorem dX9_put_78 : decode cX9_put 78 = .ok (.lconst 0, 1) := by decide +kernel
theorem dX9_put_79 : decode cX9_put 79 = .ok (.lcmp, 1) := by decide +kernel
theorem dX9_put_80 : decode cX9_put 80 = .ok (.ifCond .eq 6, 3) := by decide +kernel
theorem dX9_put_83 : decode cX9_put 83 = .ok (.bipush (-2), 2) := by decide +kernel
theorem dX9_put_85 : decode cX9_put 85 = .ok (.ireturn, 1) := by decide +kernel
theorem dX9_put_86 : decode cX9_put 86 = .ok (.aload_n 0, 1) := by decide +kernel
theorem dX9_put_87 : decode cX9_put 87 = .ok (.getfield 183, 3) := by decide +kernel
theorem dX9_put_90 : decode cX9_put 90 = .ok (.iload_n 3, 1) := by decide +kernel
theorem dX9_put_91 : decode cX9_put 91 = .ok (.iadd, 1) := by decide +kernel
theorem dX9_put_92 : decode cX9_put 92 = .ok (.bipush 80, 2) := by decide +kernel
theorem dX9_put_94 : decode cX9_put 94 = .ok (.if_icmp .le 6, 3) := by decide +kernel
theorem dX9_put_97 : decode cX9_put 97 = .ok (.bipush (-4), 2) := by decide +kernel
theorem dX9_put_99 : decode cX9_put 99 = .ok (.ireturn, 1) := by decide +kernel
theorem dX9_put_100 : decode cX9_put 100 = .ok (.iload_n 3, 1) := by decide +kernel
theorem dX9_put_101 : decode cX9_put 101 = .ok (.iconst 1, 1) := by decide +kernel
theorem dX9_put_102 : decode cX9_put 102 = .ok (.isub, 1) := by decide +kernel
theorem dX9_put_103 : decode cX9_put 103 = .ok (.istore 7, 2) := by decide +kernel
theorem dX9_put_105 : decode cX9_put 105 = .ok (.iload 7, 2) := by decide +kernel
theorem dX9_put_107 : decode cX9_put 107 = .ok (.ifCond .lt 40, 3) := by decide +kernel
theorem dX9_put_110 : decode cX9_put 110 = .ok (.aload_n 0, 1) := by decide +kernel
theorem dX9_put_111 : decode cX9_put 111 = .ok (.getfield 22, 3) := by decide +kernel
theorem dX9_put_114 : decode cX9_put 114 = .ok (.aload_n 0, 1) := by decide +kernel
theorem dX9_put_115 : decode cX9_put 115 = .ok (.getfield 183, 3) := by decide +kernel
theorem dX9_put_118 : decode cX9_put 118 = .ok (.lload_n 1, 1) := by decide +kernel
theorem dX9_put_119 : decode cX9_put 119 = .ok (.bipush 8, 2) := by decide +kernel
theorem dX9_put_121 : decode cX9_put 121 = .ok (.iload 7, 2) := by decide +kernel
theorem dX9_put_123 : decode cX9_put 123 = .ok (.imul, 1) := by decide +kernel
theorem dX9_put_124 : decode cX9_put 124 = .ok (.lushr, 1) := by decide +kernel
theorem dX9_put_125 : decode cX9_put 125 = .ok (.ldc2_w 199, 3) := by decide +kernel
theorem dX9_put_128 : decode cX9_put 128 = .ok (.land, 1) := by decide +kernel
theorem dX9_put_129 : decode cX9_put 129 = .ok (.l2i, 1) := by decide +kernel
theorem dX9_put_130 : decode cX9_put 130 = .ok (.iastore, 1) := by decide +kernel
theorem dX9_put_131 : decode cX9_put 131 = .ok (.aload_n 0, 1) := by decide +kernel
theorem dX9_put_132 : decode cX9_put 132 = .ok (.dup, 1) := by decide +kernel
theorem dX9_put_133 : decode cX9_put 133 = .ok (.getfield 183, 3) := by decide +kernel
theorem dX9_put_136 : decode cX9_put 136 = .ok (.iconst 1, 1) := by decide +kernel
theorem dX9_put_137 : decode cX9_put 137 = .ok (.iadd, 1) := by decide +kernel
theorem dX9_put_138 : decode cX9_put 138 = .ok (.putfield 183, 3) := by decide +kernel
theorem dX9_put_141 : decode cX9_put 141 = .ok (.iinc 7 (-1), 3) := by decide +kernel
theorem dX9_put_144 : decode cX9_put 144 = .ok (.goto (-39), 3) := by decide +kernel
theorem dX9_put_147 : decode cX9_put 147 = .ok (.aload_n 0, 1) := by decide +kernel
theorem dX9_put_148 : decode cX9_put 148 = .ok (.getfield 183, 3) := by decide +kernel
theorem dX9_put_151 : decode cX9_put 151 = .ok (.ireturn, 1) := by decide +kernel
theorem dX9_wipe_0 : decode cX9_wipe 0 = .ok (.aload_n 0, 1) := by decide +kernel
theorem dX9_wipe_1 : decode cX9_wipe 1 = .ok (.getfield 183, 3) := by decide +kernel
theorem dX9_wipe_4 : decode cX9_wipe 4 = .ok (.istore_n 1, 1) := by decide +kernel
theorem dX9_wipe_5 : decode cX9_wipe 5 = .ok (.aload_n 0, 1) := by decide +kernel
theorem dX9_wipe_6 : decode cX9_wipe 6 = .ok (.iconst 0, 1) := by decide +kernel
theorem dX9_wipe_7 : decode cX9_wipe 7 = .ok (.putfield 183, 3) := by decide +kernel
theorem dX9_wipe_10 : decode cX9_wipe 10 = .ok (.iload_n 1, 1) := by decide +kernel
theorem dX9_wipe_11 : decode cX9_wipe 11 = .ok (.ireturn, 1) := by decide +kernel
theorem dX9_character_0 : decode cX9_character 0 = .ok (.iload_n 1, 1) := by decide +kernel
theorem dX9_character_1 : decode cX9_character 1 = .ok (.aload_n 0, 1) := by decide +kernel
theorem dX9_character_2 : decode cX9_character 2 = .ok (.getfield 183, 3) := by decide +kernel
theorem dX9_character_5 : decode cX9_character 5 = .ok (.if_icmp .ge 12, 3) := by decide +kernel
theorem dX9_character_8 : decode cX9_character 8 = .ok (.aload_n 0, 1) := by decide +kernel
theorem dX9_character_9 : decode cX9_character 9 = .ok (.getfield 22, 3) := by decide +kernel
theorem dX9_character_12 : decode cX9_character 12 = .ok (.iload_n 1, 1) := by decide +kernel
theorem dX9_character_13 : decode cX9_character 13 = .ok (.iaload, 1) := by decide +kernel
theorem dX9_character_14 : decode cX9_character 14 = .ok (.goto 4, 3) := by decide +kernel
theorem dX9_character_17 : decode cX9_character 17 = .ok (.iconst (-1), 1) := by decide +kernel
theorem dX9_character_18 : decode cX9_character 18 = .ok (.ireturn, 1) := by decide +kernel
theorem dX9_takeDigit_0 : decode cX9_takeDigit 0 = .ok (.aload_n 0, 1) := by decide +kernel
theorem dX9_takeDigit_1 : decode cX9_takeDigit 1 = .ok (.aload_n 0, 1) := by decide +kernel
theorem dX9_takeDigit_2 : decode cX9_takeDigit 2 = .ok (.getfield 201, 3) := by decide +kernel
theorem dX9_takeDigit_5 : decode cX9_takeDigit 5 = .ok (.invokevirtual 204, 3) := by decide +kernel
theorem dX9_takeDigit_8 : decode cX9_takeDigit 8 = .ok (.bipush 48, 2) := by decide +kernel
theorem dX9_takeDigit_10 : decode cX9_takeDigit 10 = .ok (.isub, 1) := by decide +kernel
theorem dX9_takeDigit_11 : decode cX9_takeDigit 11 = .ok (.istore_n 2, 1) := by decide +kernel
theorem dX9_takeDigit_12 : decode cX9_takeDigit 12 = .ok (.iload_n 2, 1) := by decide +kernel
theorem dX9_takeDigit_13 : decode cX9_takeDigit 13 = .ok (.iconst 0, 1) := by decide +kernel
theorem dX9_takeDigit_14 : decode cX9_takeDigit 14 = .ok (.iload_n 1, 1) := by decide +kernel
theorem dX9_takeDigit_15 : decode cX9_takeDigit 15 = .ok (.invokestatic 42, 3) := by decide +kernel
theorem dX9_takeDigit_18 : decode cX9_takeDigit 18 = .ok (.ifCond .ne 5, 3) := by decide +kernel
theorem dX9_takeDigit_21 : decode cX9_takeDigit 21 = .ok (.iconst (-1), 1) := by decide +kernel
theorem dX9_takeDigit_22 : decode cX9_takeDigit 22 = .ok (.ireturn, 1) := by decide +kernel
theorem dX9_takeDigit_23 : decode cX9_takeDigit 23 = .ok (.aload_n 0, 1) := by decide +kernel
theorem dX9_takeDigit_24 : decode cX9_takeDigit 24 = .ok (.dup, 1) := by decide +kernel
theorem dX9_takeDigit_25 : decode cX9_takeDigit 25 = .ok (.getfield 201, 3) := by decide +kernel
theorem dX9_takeDigit_28 : decode cX9_takeDigit 28 = .ok (.iconst 1, 1) := by decide +kernel
theorem dX9_takeDigit_29 : decode cX9_takeDigit 29 = .ok (.iadd, 1) := by decide +kernel
theorem dX9_takeDigit_30 : decode cX9_takeDigit 30 = .ok (.putfield 201, 3) := by decide +kernel
theorem dX9_takeDigit_33 : decode cX9_takeDigit 33 = .ok (.iload_n 2, 1) := by decide +kernel
theorem dX9_takeDigit_34 : decode cX9_takeDigit 34 = .ok (.ireturn, 1) := by decide +kernel
theorem dX9_takes_0 : decode cX9_takes 0 = .ok (.aload_n 0, 1) := by decide +kernel
theorem dX9_takes_1 : decode cX9_takes 1 = .ok (.aload_n 0, 1) := by decide +kernel
theorem dX9_takes_2 : decode cX9_takes 2 = .ok (.getfield 201, 3) := by decide +kernel
theorem dX9_takes_5 : decode cX9_takes 5 = .ok (.invokevirtual 204, 3) := by decide +kernel
theorem dX9_takes_8 : decode cX9_takes 8 = .ok (.iload_n 1, 1) := by decide +kernel
theorem dX9_takes_9 : decode cX9_takes 9 = .ok (.if_icmp .ne 7, 3) := by decide +kernel
theorem dX9_takes_12 : decode cX9_takes 12 = .ok (.iconst 1, 1) := by decide +kernel
theorem dX9_takes_13 : decode cX9_takes 13 = .ok (.goto 4, 3) := by decide +kernel
theorem dX9_takes_16 : decode cX9_takes 16 = .ok (.iconst 0, 1) := by decide +kernel
theorem dX9_takes_17 : decode cX9_takes 17 = .ok (.istore_n 2, 1) := by decide +kernel
theorem dX9_takes_18 : decode cX9_takes 18 = .ok (.aload_n 0, 1) := by decide +kernel
theorem dX9_takes_19 : decode cX9_takes 19 = .ok (.dup, 1) := by decide +kernel
theorem dX9_takes_20 : decode cX9_takes 20 = .ok (.getfield 201, 3) := by decide +kernel
theorem dX9_takes_23 : decode cX9_takes 23 = .ok (.iload_n 2, 1) := by decide +kernel
theorem dX9_takes_24 : decode cX9_takes 24 = .ok (.ifCond .eq 7, 3) := by decide +kernel
theorem dX9_takes_27 : decode cX9_takes 27 = .ok (.iconst 1, 1) := by decide +kernel
theorem dX9_takes_28 : decode cX9_takes 28 = .ok (.goto 4, 3) := by decide +kernel
theorem dX9_takes_31 : decode cX9_takes 31 = .ok (.iconst 0, 1) := by decide +kernel
theorem dX9_takes_32 : decode cX9_takes 32 = .ok (.iadd, 1) := by decide +kernel
theorem dX9_takes_33 : decode cX9_takes 33 = .ok (.putfield 201, 3) := by decide +kernel
theorem dX9_takes_36 : decode cX9_takes 36 = .ok (.iload_n 2, 1) := by decide +kernel
theorem dX9_takes_37 : decode cX9_takes 37 = .ok (.ireturn, 1) := by decide +kernel
theorem dX9_takeNumber_0 : decode cX9_takeNumber 0 = .ok (.aload_n 0, 1) := by decide +kernel
theorem dX9_takeNumber_1 : decode cX9_takeNumber 1 = .ok (.bipush 9, 2) := by decide +kernel
theorem dX9_takeNumber_3 : decode cX9_takeNumber 3 = .ok (.invokevirtual 207, 3) := by decide +kernel
theorem dX9_takeNumber_6 : decode cX9_takeNumber 6 = .ok (.istore_n 1, 1) := by decide +kernel
theorem dX9_takeNumber_7 : decode cX9_takeNumber 7 = .ok (.iload_n 1, 1) := by decide +kernel
theorem dX9_takeNumber_8 : decode cX9_takeNumber 8 = .ok (.ifCond .le 42, 3) := by decide +kernel
theorem dX9_takeNumber_11 : decode cX9_takeNumber 11 = .ok (.iload_n 1, 1) := by decide +kernel
theorem dX9_takeNumber_12 : decode cX9_takeNumber 12 = .ok (.bipush 100, 2) := by decide +kernel
theorem dX9_takeNumber_14 : decode cX9_takeNumber 14 = .ok (.if_icmp .ge 36, 3) := by decide +kernel
theorem dX9_takeNumber_17 : decode cX9_takeNumber 17 = .ok (.aload_n 0, 1) := by decide +kernel
theorem dX9_takeNumber_18 : decode cX9_takeNumber 18 = .ok (.aload_n 0, 1) := by decide +kernel
theorem dX9_takeNumber_19 : decode cX9_takeNumber 19 = .ok (.getfield 201, 3) := by decide +kernel
theorem dX9_takeNumber_22 : decode cX9_takeNumber 22 = .ok (.invokevirtual 204, 3) := by decide +kernel
theorem dX9_takeNumber_25 : decode cX9_takeNumber 25 = .ok (.bipush 48, 2) := by decide +kernel
theorem dX9_takeNumber_27 : decode cX9_takeNumber 27 = .ok (.bipush 57, 2) := by decide +kernel
theorem dX9_takeNumber_29 : decode cX9_takeNumber 29 = .ok (.invokestatic 42, 3) := by decide +kernel
theorem dX9_takeNumber_32 : decode cX9_takeNumber 32 = .ok (.ifCond .eq 18, 3) := by decide +kernel
theorem dX9_takeNumber_35 : decode cX9_takeNumber 35 = .ok (.bipush 10, 2) := by decide +kernel
theorem dX9_takeNumber_37 : decode cX9_takeNumber 37 = .ok (.iload_n 1, 1) := by decide +kernel
theorem dX9_takeNumber_38 : decode cX9_takeNumber 38 = .ok (.imul, 1) := by decide +kernel
theorem dX9_takeNumber_39 : decode cX9_takeNumber 39 = .ok (.aload_n 0, 1) := by decide +kernel
theorem dX9_takeNumber_40 : decode cX9_takeNumber 40 = .ok (.bipush 9, 2) := by decide +kernel
theorem dX9_takeNumber_42 : decode cX9_takeNumber 42 = .ok (.invokevirtual 207, 3) := by decide +kernel
theorem dX9_takeNumber_45 : decode cX9_takeNumber 45 = .ok (.iadd, 1) := by decide +kernel
theorem dX9_takeNumber_46 : decode cX9_takeNumber 46 = .ok (.istore_n 1, 1) := by decide +kernel
theorem dX9_takeNumber_47 : decode cX9_takeNumber 47 = .ok (.goto (-40), 3) := by decide +kernel
theorem dX9_takeNumber_50 : decode cX9_takeNumber 50 = .ok (.iload_n 1, 1) := by decide +kernel
theorem dX9_takeNumber_51 : decode cX9_takeNumber 51 = .ok (.ireturn, 1) := by decide +kernel
theorem dX9_takesDeal_0 : decode cX9_takesDeal 0 = .ok (.aload_n 0, 1) := by decide +kernel
theorem dX9_takesDeal_1 : decode cX9_takesDeal 1 = .ok (.bipush 64, 2) := by decide +kernel
theorem dX9_takesDeal_3 : decode cX9_takesDeal 3 = .ok (.invokevirtual 210, 3) := by decide +kernel
theorem dX9_takesDeal_6 : decode cX9_takesDeal 6 = .ok (.istore_n 1, 1) := by decide +kernel
theorem dX9_takesDeal_7 : decode cX9_takesDeal 7 = .ok (.aload_n 0, 1) := by decide +kernel
theorem dX9_takesDeal_8 : decode cX9_takesDeal 8 = .ok (.iload_n 1, 1) := by decide +kernel
theorem dX9_takesDeal_9 : decode cX9_takesDeal 9 = .ok (.ifCond .eq 12, 3) := by decide +kernel
theorem dX9_takesDeal_12 : decode cX9_takesDeal 12 = .ok (.aload_n 0, 1) := by decide +kernel
theorem dX9_takesDeal_13 : decode cX9_takesDeal 13 = .ok (.bipush 9, 2) := by decide +kernel
theorem dX9_takesDeal_15 : decode cX9_takesDeal 15 = .ok (.invokevirtual 207, 3) := by decide +kernel
theorem dX9_takesDeal_18 : decode cX9_takesDeal 18 = .ok (.goto 4, 3) := by decide +kernel
theorem dX9_takesDeal_21 : decode cX9_takesDeal 21 = .ok (.iconst (-1), 1) := by decide +kernel
theorem dX9_takesDeal_22 : decode cX9_takesDeal 22 = .ok (.putfield 213, 3) := by decide +kernel
theorem dX9_takesDeal_25 : decode cX9_takesDeal 25 = .ok (.iload_n 1, 1) := by decide +kernel
theorem dX9_takesDeal_26 : decode cX9_takesDeal 26 = .ok (.ifCond .eq 23, 3) := by decide +kernel
theorem dX9_takesDeal_29 : decode cX9_takesDeal 29 = .ok (.aload_n 0, 1) := by decide +kernel
theorem dX9_takesDeal_30 : decode cX9_takesDeal 30 = .ok (.getfield 213, 3) := by decide +kernel
theorem dX9_takesDeal_33 : decode cX9_takesDeal 33 = .ok (.ifCond .lt 16, 3) := by decide +kernel
theorem dX9_takesDeal_36 : decode cX9_takesDeal 36 = .ok (.aload_n 0, 1) := by decide +kernel
theorem dX9_takesDeal_37 : decode cX9_takesDeal 37 = .ok (.bipush 42, 2) := by decide +kernel
theorem dX9_takesDeal_39 : decode cX9_takesDeal 39 = .ok (.invokevirtual 210, 3) := by decide +kernel
theorem dX9_takesDeal_42 : decode cX9_takesDeal 42 = .ok (.ifCond .eq 7, 3) := by decide +kernel
theorem dX9_takesDeal_45 : decode cX9_takesDeal 45 = .ok (.iconst 1, 1) := by decide +kernel
theorem dX9_takesDeal_46 : decode cX9_takesDeal 46 = .ok (.goto 4, 3) := by decide +kernel
theorem dX9_takesDeal_49 : decode cX9_takesDeal 49 = .ok (.iconst 0, 1) := by decide +kernel
theorem dX9_takesDeal_50 : decode cX9_takesDeal 50 = .ok (.istore_n 1, 1) := by decide +kernel
theorem dX9_takesDeal_51 : decode cX9_takesDeal 51 = .ok (.aload_n 0, 1) := by decide +kernel
theorem dX9_takesDeal_52 : decode cX9_takesDeal 52 = .ok (.iload_n 1, 1) := by decide +kernel
theorem dX9_takesDeal_53 : decode cX9_takesDeal 53 = .ok (.ifCond .eq 10, 3) := by decide +kernel
theorem dX9_takesDeal_56 : decode cX9_takesDeal 56 = .ok (.aload_n 0, 1) := by decide +kernel
theorem dX9_takesDeal_57 : decode cX9_takesDeal 57 = .ok (.invokevirtual 216, 3) := by decide +kernel
theorem dX9_takesDeal_60 : decode cX9_takesDeal 60 = .ok (.goto 4, 3) := by decide +kernel
theorem dX9_takesDeal_63 : decode cX9_takesDeal 63 = .ok (.iconst (-1), 1) := by decide +kernel
theorem dX9_takesDeal_64 : decode cX9_takesDeal 64 = .ok (.putfield 219, 3) := by decide +kernel
theorem dX9_takesDeal_67 : decode cX9_takesDeal 67 = .ok (.iload_n 1, 1) := by decide +kernel
theorem dX9_takesDeal_68 : decode cX9_takesDeal 68 = .ok (.ifCond .eq 23, 3) := by decide +kernel
theorem dX9_takesDeal_71 : decode cX9_takesDeal 71 = .ok (.aload_n 0, 1) := by decide +kernel
theorem dX9_takesDeal_72 : decode cX9_takesDeal 72 = .ok (.getfield 219, 3) := by decide +kernel
theorem dX9_takesDeal_75 : decode cX9_takesDeal 75 = .ok (.ifCond .lt 16, 3) := by decide +kernel
theorem dX9_takesDeal_78 : decode cX9_takesDeal 78 = .ok (.aload_n 0, 1) := by decide +kernel
theorem dX9_takesDeal_79 : decode cX9_takesDeal 79 = .ok (.bipush 58, 2) := by decide +kernel
theorem dX9_takesDeal_81 : decode cX9_takesDeal 81 = .ok (.invokevirtual 210, 3) := by decide +kernel
theorem dX9_takesDeal_84 : decode cX9_takesDeal 84 = .ok (.ifCond .eq 7, 3) := by decide +kernel
theorem dX9_takesDeal_87 : decode cX9_takesDeal 87 = .ok (.iconst 1, 1) := by decide +kernel
theorem dX9_takesDeal_88 : decode cX9_takesDeal 88 = .ok (.goto 4, 3) := by decide +kernel
theorem dX9_takesDeal_91 : decode cX9_takesDeal 91 = .ok (.iconst 0, 1) := by decide +kernel
theorem dX9_takesDeal_92 : decode cX9_takesDeal 92 = .ok (.istore_n 1, 1) := by decide +kernel
theorem dX9_takesDeal_93 : decode cX9_takesDeal 93 = .ok (.aload_n 0, 1) := by decide +kernel
theorem dX9_takesDeal_94 : decode cX9_takesDeal 94 = .ok (.iload_n 1, 1) := by decide +kernel
theorem dX9_takesDeal_95 : decode cX9_takesDeal 95 = .ok (.ifCond .eq 10, 3) := by decide +kernel
theorem dX9_takesDeal_98 : decode cX9_takesDeal 98 = .ok (.aload_n 0, 1) := by decide +kernel
theorem dX9_takesDeal_99 : decode cX9_takesDeal 99 = .ok (.invokevirtual 216, 3) := by decide +kernel
theorem dX9_takesDeal_102 : decode cX9_takesDeal 102 = .ok (.goto 4, 3) := by decide +kernel
theorem dX9_takesDeal_105 : decode cX9_takesDeal 105 = .ok (.iconst (-1), 1) := by decide +kernel
theorem dX9_takesDeal_106 : decode cX9_takesDeal 106 = .ok (.putfield 222, 3) := by decide +kernel
theorem dX9_takesDeal_109 : decode cX9_takesDeal 109 = .ok (.iload_n 1, 1) := by decide +kernel
theorem dX9_takesDeal_110 : decode cX9_takesDeal 110 = .ok (.ifCond .eq 14, 3) := by decide +kernel
theorem dX9_takesDeal_113 : decode cX9_takesDeal 113 = .ok (.aload_n 0, 1) := by decide +kernel
theorem dX9_takesDeal_114 : decode cX9_takesDeal 114 = .ok (.getfield 222, 3) := by decide +kernel
theorem dX9_takesDeal_117 : decode cX9_takesDeal 117 = .ok (.ifCond .lt 7, 3) := by decide +kernel
theorem dX9_takesDeal_120 : decode cX9_takesDeal 120 = .ok (.iconst 1, 1) := by decide +kernel
theorem dX9_takesDeal_121 : decode cX9_takesDeal 121 = .ok (.goto 4, 3) := by decide +kernel
theorem dX9_takesDeal_124 : decode cX9_takesDeal 124 = .ok (.iconst 0, 1) := by decide +kernel
theorem dX9_takesDeal_125 : decode cX9_takesDeal 125 = .ok (.ireturn, 1) := by decide +kernel
theorem dX9_readsOrder_0 : decode cX9_readsOrder 0 = .ok (.aload_n 0, 1) := by decide +kernel
theorem dX9_readsOrder_1 : decode cX9_readsOrder 1 = .ok (.aload_n 0, 1) := by decide +kernel
theorem dX9_readsOrder_2 : decode cX9_readsOrder 2 = .ok (.aload_n 0, 1) := by decide +kernel
theorem dX9_readsOrder_3 : decode cX9_readsOrder 3 = .ok (.getfield 201, 3) := by decide +kernel
theorem dX9_readsOrder_6 : decode cX9_readsOrder 6 = .ok (.invokevirtual 204, 3) := by decide +kernel
theorem dX9_readsOrder_9 : decode cX9_readsOrder 9 = .ok (.putfield 225, 3) := by decide +kernel
theorem dX9_readsOrder_12 : decode cX9_readsOrder 12 = .ok (.aload_n 0, 1) := by decide +kernel
theorem dX9_readsOrder_13 : decode cX9_readsOrder 13 = .ok (.dup, 1) := by decide +kernel
theorem dX9_readsOrder_14 : decode cX9_readsOrder 14 = .ok (.getfield 201, 3) := by decide +kernel
theorem dX9_readsOrder_17 : decode cX9_readsOrder 17 = .ok (.iconst 1, 1) := by decide +kernel
theorem dX9_readsOrder_18 : decode cX9_readsOrder 18 = .ok (.iadd, 1) := by decide +kernel
theorem dX9_readsOrder_19 : decode cX9_readsOrder 19 = .ok (.putfield 201, 3) := by decide +kernel
theorem dX9_readsOrder_22 : decode cX9_readsOrder 22 = .ok (.aload_n 0, 1) := by decide +kernel
theorem dX9_readsOrder_23 : decode cX9_readsOrder 23 = .ok (.iconst 0, 1) := by decide +kernel
theorem dX9_readsOrder_24 : decode cX9_readsOrder 24 = .ok (.putfield 228, 3) := by decide +kernel
theorem dX9_readsOrder_27 : decode cX9_readsOrder 27 = .ok (.aload_n 0, 1) := by decide +kernel
theorem dX9_readsOrder_28 : decode cX9_readsOrder 28 = .ok (.iconst 0, 1) := by decide +kernel
theorem dX9_readsOrder_29 : decode cX9_readsOrder 29 = .ok (.putfield 231, 3) := by decide +kernel
theorem dX9_readsOrder_32 : decode cX9_readsOrder 32 = .ok (.aload_n 0, 1) := by decide +kernel
theorem dX9_readsOrder_33 : decode cX9_readsOrder 33 = .ok (.getfield 225, 3) := by decide +kernel
theorem dX9_readsOrder_36 : decode cX9_readsOrder 36 = .ok (.lookupswitch 245 #[(97, 156), (98, 185), (109, 243), (116, 52), (119, 103)], 52) := by decide +kernel
theorem dX9_readsOrder_88 : decode cX9_readsOrder 88 = .ok (.aload_n 0, 1) := by decide +kernel
theorem dX9_readsOrder_89 : decode cX9_readsOrder 89 = .ok (.aload_n 0, 1) := by decide +kernel
theorem dX9_readsOrder_90 : decode cX9_readsOrder 90 = .ok (.iconst 5, 1) := by decide +kernel
theorem dX9_readsOrder_91 : decode cX9_readsOrder 91 = .ok (.invokevirtual 207, 3) := by decide +kernel
theorem dX9_readsOrder_94 : decode cX9_readsOrder 94 = .ok (.putfield 228, 3) := by decide +kernel
theorem dX9_readsOrder_97 : decode cX9_readsOrder 97 = .ok (.aload_n 0, 1) := by decide +kernel
theorem dX9_readsOrder_98 : decode cX9_readsOrder 98 = .ok (.aload_n 0, 1) := by decide +kernel
theorem dX9_readsOrder_99 : decode cX9_readsOrder 99 = .ok (.getfield 228, 3) := by decide +kernel
theorem dX9_readsOrder_102 : decode cX9_readsOrder 102 = .ok (.ifCond .lt 20, 3) := by decide +kernel
theorem dX9_readsOrder_105 : decode cX9_readsOrder 105 = .ok (.aload_n 0, 1) := by decide +kernel
theorem dX9_readsOrder_106 : decode cX9_readsOrder 106 = .ok (.bipush 61, 2) := by decide +kernel
theorem dX9_readsOrder_108 : decode cX9_readsOrder 108 = .ok (.invokevirtual 210, 3) := by decide +kernel
theorem dX9_readsOrder_111 : decode cX9_readsOrder 111 = .ok (.ifCond .eq 11, 3) := by decide +kernel
theorem dX9_readsOrder_114 : decode cX9_readsOrder 114 = .ok (.aload_n 0, 1) := by decide +kernel
theorem dX9_readsOrder_115 : decode cX9_readsOrder 115 = .ok (.iconst 4, 1) := by decide +kernel
theorem dX9_readsOrder_116 : decode cX9_readsOrder 116 = .ok (.invokevirtual 207, 3) := by decide +kernel
theorem dX9_readsOrder_119 : decode cX9_readsOrder 119 = .ok (.goto 4, 3) := by decide +kernel
theorem dX9_readsOrder_122 : decode cX9_readsOrder 122 = .ok (.iconst (-1), 1) := by decide +kernel
theorem dX9_readsOrder_123 : decode cX9_readsOrder 123 = .ok (.putfield 231, 3) := by decide +kernel
theorem dX9_readsOrder_126 : decode cX9_readsOrder 126 = .ok (.aload_n 0, 1) := by decide +kernel
theorem dX9_readsOrder_127 : decode cX9_readsOrder 127 = .ok (.getfield 231, 3) := by decide +kernel
theorem dX9_readsOrder_130 : decode cX9_readsOrder 130 = .ok (.ifCond .lt 7, 3) := by decide +kernel
theorem dX9_readsOrder_133 : decode cX9_readsOrder 133 = .ok (.iconst 1, 1) := by decide +kernel
theorem dX9_readsOrder_134 : decode cX9_readsOrder 134 = .ok (.goto 4, 3) := by decide +kernel
theorem dX9_readsOrder_137 : decode cX9_readsOrder 137 = .ok (.iconst 0, 1) := by decide +kernel
theorem dX9_readsOrder_138 : decode cX9_readsOrder 138 = .ok (.ireturn, 1) := by decide +kernel
theorem dX9_readsOrder_139 : decode cX9_readsOrder 139 = .ok (.aload_n 0, 1) := by decide +kernel
theorem dX9_readsOrder_140 : decode cX9_readsOrder 140 = .ok (.aload_n 0, 1) := by decide +kernel
theorem dX9_readsOrder_141 : decode cX9_readsOrder 141 = .ok (.bipush 9, 2) := by decide +kernel
theorem dX9_readsOrder_143 : decode cX9_readsOrder 143 = .ok (.invokevirtual 207, 3) := by decide +kernel
theorem dX9_readsOrder_146 : decode cX9_readsOrder 146 = .ok (.putfield 228, 3) := by decide +kernel
theorem dX9_readsOrder_149 : decode cX9_readsOrder 149 = .ok (.aload_n 0, 1) := by decide +kernel
theorem dX9_readsOrder_150 : decode cX9_readsOrder 150 = .ok (.aload_n 0, 1) := by decide +kernel
theorem dX9_readsOrder_151 : decode cX9_readsOrder 151 = .ok (.getfield 228, 3) := by decide +kernel
theorem dX9_readsOrder_154 : decode cX9_readsOrder 154 = .ok (.ifCond .lt 21, 3) := by decide +kernel
theorem dX9_readsOrder_157 : decode cX9_readsOrder 157 = .ok (.aload_n 0, 1) := by decide +kernel
theorem dX9_readsOrder_158 : decode cX9_readsOrder 158 = .ok (.bipush 61, 2) := by decide +kernel
theorem dX9_readsOrder_160 : decode cX9_readsOrder 160 = .ok (.invokevirtual 210, 3) := by decide +kernel
theorem dX9_readsOrder_163 : decode cX9_readsOrder 163 = .ok (.ifCond .eq 12, 3) := by decide +kernel
theorem dX9_readsOrder_166 : decode cX9_readsOrder 166 = .ok (.aload_n 0, 1) := by decide +kernel
theorem dX9_readsOrder_167 : decode cX9_readsOrder 167 = .ok (.bipush 9, 2) := by decide +kernel
theorem dX9_readsOrder_169 : decode cX9_readsOrder 169 = .ok (.invokevirtual 207, 3) := by decide +kernel
theorem dX9_readsOrder_172 : decode cX9_readsOrder 172 = .ok (.goto 4, 3) := by decide +kernel
theorem dX9_readsOrder_175 : decode cX9_readsOrder 175 = .ok (.iconst (-1), 1) := by decide +kernel
theorem dX9_readsOrder_176 : decode cX9_readsOrder 176 = .ok (.putfield 231, 3) := by decide +kernel
theorem dX9_readsOrder_179 : decode cX9_readsOrder 179 = .ok (.aload_n 0, 1) := by decide +kernel
theorem dX9_readsOrder_180 : decode cX9_readsOrder 180 = .ok (.getfield 231, 3) := by decide +kernel
theorem dX9_readsOrder_183 : decode cX9_readsOrder 183 = .ok (.ifCond .lt 7, 3) := by decide +kernel
theorem dX9_readsOrder_186 : decode cX9_readsOrder 186 = .ok (.iconst 1, 1) := by decide +kernel
theorem dX9_readsOrder_187 : decode cX9_readsOrder 187 = .ok (.goto 4, 3) := by decide +kernel
theorem dX9_readsOrder_190 : decode cX9_readsOrder 190 = .ok (.iconst 0, 1) := by decide +kernel
theorem dX9_readsOrder_191 : decode cX9_readsOrder 191 = .ok (.ireturn, 1) := by decide +kernel
theorem dX9_readsOrder_192 : decode cX9_readsOrder 192 = .ok (.aload_n 0, 1) := by decide +kernel
theorem dX9_readsOrder_193 : decode cX9_readsOrder 193 = .ok (.aload_n 0, 1) := by decide +kernel
theorem dX9_readsOrder_194 : decode cX9_readsOrder 194 = .ok (.iconst 5, 1) := by decide +kernel
theorem dX9_readsOrder_195 : decode cX9_readsOrder 195 = .ok (.invokevirtual 207, 3) := by decide +kernel
theorem dX9_readsOrder_198 : decode cX9_readsOrder 198 = .ok (.putfield 228, 3) := by decide +kernel
theorem dX9_readsOrder_201 : decode cX9_readsOrder 201 = .ok (.aload_n 0, 1) := by decide +kernel
theorem dX9_readsOrder_202 : decode cX9_readsOrder 202 = .ok (.getfield 228, 3) := by decide +kernel
theorem dX9_readsOrder_205 : decode cX9_readsOrder 205 = .ok (.ifCond .lt 14, 3) := by decide +kernel
theorem dX9_readsOrder_208 : decode cX9_readsOrder 208 = .ok (.aload_n 0, 1) := by decide +kernel
theorem dX9_readsOrder_209 : decode cX9_readsOrder 209 = .ok (.invokevirtual 234, 3) := by decide +kernel
theorem dX9_readsOrder_212 : decode cX9_readsOrder 212 = .ok (.ifCond .eq 7, 3) := by decide +kernel
theorem dX9_readsOrder_215 : decode cX9_readsOrder 215 = .ok (.iconst 1, 1) := by decide +kernel
theorem dX9_readsOrder_216 : decode cX9_readsOrder 216 = .ok (.goto 4, 3) := by decide +kernel
theorem dX9_readsOrder_219 : decode cX9_readsOrder 219 = .ok (.iconst 0, 1) := by decide +kernel
theorem dX9_readsOrder_220 : decode cX9_readsOrder 220 = .ok (.ireturn, 1) := by decide +kernel
theorem dX9_readsOrder_221 : decode cX9_readsOrder 221 = .ok (.aload_n 0, 1) := by decide +kernel
theorem dX9_readsOrder_222 : decode cX9_readsOrder 222 = .ok (.aload_n 0, 1) := by decide +kernel
theorem dX9_readsOrder_223 : decode cX9_readsOrder 223 = .ok (.iconst 5, 1) := by decide +kernel
theorem dX9_readsOrder_224 : decode cX9_readsOrder 224 = .ok (.invokevirtual 207, 3) := by decide +kernel
theorem dX9_readsOrder_227 : decode cX9_readsOrder 227 = .ok (.putfield 228, 3) := by decide +kernel
theorem dX9_readsOrder_230 : decode cX9_readsOrder 230 = .ok (.aload_n 0, 1) := by decide +kernel
theorem dX9_readsOrder_231 : decode cX9_readsOrder 231 = .ok (.aload_n 0, 1) := by decide +kernel
theorem dX9_readsOrder_232 : decode cX9_readsOrder 232 = .ok (.getfield 228, 3) := by decide +kernel
theorem dX9_readsOrder_235 : decode cX9_readsOrder 235 = .ok (.ifCond .lt 20, 3) := by decide +kernel
theorem dX9_readsOrder_238 : decode cX9_readsOrder 238 = .ok (.aload_n 0, 1) := by decide +kernel
theorem dX9_readsOrder_239 : decode cX9_readsOrder 239 = .ok (.bipush 62, 2) := by decide +kernel
theorem dX9_readsOrder_241 : decode cX9_readsOrder 241 = .ok (.invokevirtual 210, 3) := by decide +kernel
theorem dX9_readsOrder_244 : decode cX9_readsOrder 244 = .ok (.ifCond .eq 11, 3) := by decide +kernel
theorem dX9_readsOrder_247 : decode cX9_readsOrder 247 = .ok (.aload_n 0, 1) := by decide +kernel
theorem dX9_readsOrder_248 : decode cX9_readsOrder 248 = .ok (.iconst 5, 1) := by decide +kernel
theorem dX9_readsOrder_249 : decode cX9_readsOrder 249 = .ok (.invokevirtual 207, 3) := by decide +kernel
theorem dX9_readsOrder_252 : decode cX9_readsOrder 252 = .ok (.goto 4, 3) := by decide +kernel
theorem dX9_readsOrder_255 : decode cX9_readsOrder 255 = .ok (.iconst (-1), 1) := by decide +kernel
theorem dX9_readsOrder_256 : decode cX9_readsOrder 256 = .ok (.putfield 231, 3) := by decide +kernel
theorem dX9_readsOrder_259 : decode cX9_readsOrder 259 = .ok (.aload_n 0, 1) := by decide +kernel
theorem dX9_readsOrder_260 : decode cX9_readsOrder 260 = .ok (.getfield 231, 3) := by decide +kernel
theorem dX9_readsOrder_263 : decode cX9_readsOrder 263 = .ok (.ifCond .lt 14, 3) := by decide +kernel
theorem dX9_readsOrder_266 : decode cX9_readsOrder 266 = .ok (.aload_n 0, 1) := by decide +kernel
theorem dX9_readsOrder_267 : decode cX9_readsOrder 267 = .ok (.invokevirtual 234, 3) := by decide +kernel
theorem dX9_readsOrder_270 : decode cX9_readsOrder 270 = .ok (.ifCond .eq 7, 3) := by decide +kernel
theorem dX9_readsOrder_273 : decode cX9_readsOrder 273 = .ok (.iconst 1, 1) := by decide +kernel
theorem dX9_readsOrder_274 : decode cX9_readsOrder 274 = .ok (.goto 4, 3) := by decide +kernel
theorem dX9_readsOrder_277 : decode cX9_readsOrder 277 = .ok (.iconst 0, 1) := by decide +kernel
theorem dX9_readsOrder_278 : decode cX9_readsOrder 278 = .ok (.ireturn, 1) := by decide +kernel
theorem dX9_readsOrder_279 : decode cX9_readsOrder 279 = .ok (.iconst 1, 1) := by decide +kernel
theorem dX9_readsOrder_280 : decode cX9_readsOrder 280 = .ok (.ireturn, 1) := by decide +kernel
theorem dX9_readsOrder_281 : decode cX9_readsOrder 281 = .ok (.aload_n 0, 1) := by decide +kernel
theorem dX9_readsOrder_282 : decode cX9_readsOrder 282 = .ok (.dup, 1) := by decide +kernel
theorem dX9_readsOrder_283 : decode cX9_readsOrder 283 = .ok (.getfield 201, 3) := by decide +kernel
theorem dX9_readsOrder_286 : decode cX9_readsOrder 286 = .ok (.iconst 1, 1) := by decide +kernel
theorem dX9_readsOrder_287 : decode cX9_readsOrder 287 = .ok (.isub, 1) := by decide +kernel
theorem dX9_readsOrder_288 : decode cX9_readsOrder 288 = .ok (.putfield 201, 3) := by decide +kernel
theorem dX9_readsOrder_291 : decode cX9_readsOrder 291 = .ok (.iconst 0, 1) := by decide +kernel
theorem dX9_readsOrder_292 : decode cX9_readsOrder 292 = .ok (.ireturn, 1) := by decide +kernel
theorem dX9_findFault_0 : decode cX9_findFault 0 = .ok (.aload_n 0, 1) := by decide +kernel
theorem dX9_findFault_1 : decode cX9_findFault 1 = .ok (.iconst 0, 1) := by decide +kernel
theorem dX9_findFault_2 : decode cX9_findFault 2 = .ok (.putfield 201, 3) := by decide +kernel
theorem dX9_findFault_5 : decode cX9_findFault 5 = .ok (.aload_n 0, 1) := by decide +kernel
theorem dX9_findFault_6 : decode cX9_findFault 6 = .ok (.invokevirtual 238, 3) := by decide +kernel
theorem dX9_findFault_9 : decode cX9_findFault 9 = .ok (.ifCond .ne 8, 3) := by decide +kernel
theorem dX9_findFault_12 : decode cX9_findFault 12 = .ok (.aload_n 0, 1) := by decide +kernel
theorem dX9_findFault_13 : decode cX9_findFault 13 = .ok (.getfield 201, 3) := by decide +kernel
theorem dX9_findFault_16 : decode cX9_findFault 16 = .ok (.ireturn, 1) := by decide +kernel
theorem dX9_findFault_17 : decode cX9_findFault 17 = .ok (.aload_n 0, 1) := by decide +kernel
theorem dX9_findFault_18 : decode cX9_findFault 18 = .ok (.getfield 201, 3) := by decide +kernel
theorem dX9_findFault_21 : decode cX9_findFault 21 = .ok (.aload_n 0, 1) := by decide +kernel
theorem dX9_findFault_22 : decode cX9_findFault 22 = .ok (.getfield 183, 3) := by decide +kernel
theorem dX9_findFault_25 : decode cX9_findFault 25 = .ok (.if_icmp .ne 6, 3) := by decide +kernel
theorem dX9_findFault_28 : decode cX9_findFault 28 = .ok (.bipush (-6), 2) := by decide +kernel
theorem dX9_findFault_30 : decode cX9_findFault 30 = .ok (.ireturn, 1) := by decide +kernel
theorem dX9_findFault_31 : decode cX9_findFault 31 = .ok (.aload_n 0, 1) := by decide +kernel
theorem dX9_findFault_32 : decode cX9_findFault 32 = .ok (.bipush 59, 2) := by decide +kernel
theorem dX9_findFault_34 : decode cX9_findFault 34 = .ok (.invokevirtual 210, 3) := by decide +kernel
theorem dX9_findFault_37 : decode cX9_findFault 37 = .ok (.ifCond .ne (-32), 3) := by decide +kernel
theorem dX9_findFault_40 : decode cX9_findFault 40 = .ok (.aload_n 0, 1) := by decide +kernel
theorem dX9_findFault_41 : decode cX9_findFault 41 = .ok (.getfield 201, 3) := by decide +kernel
theorem dX9_findFault_44 : decode cX9_findFault 44 = .ok (.ireturn, 1) := by decide +kernel
theorem dX9_fault_0 : decode cX9_fault 0 = .ok (.aload_n 0, 1) := by decide +kernel
theorem dX9_fault_1 : decode cX9_fault 1 = .ok (.invokevirtual 241, 3) := by decide +kernel
theorem dX9_fault_4 : decode cX9_fault 4 = .ok (.ireturn, 1) := by decide +kernel
theorem dX9_does_0 : decode cX9_does 0 = .ok (.iconst 1, 1) := by decide +kernel
theorem dX9_does_1 : decode cX9_does 1 = .ok (.istore_n 1, 1) := by decide +kernel
theorem dX9_does_2 : decode cX9_does 2 = .ok (.aload_n 0, 1) := by decide +kernel
theorem dX9_does_3 : decode cX9_does 3 = .ok (.getfield 225, 3) := by decide +kernel
theorem dX9_does_6 : decode cX9_does 6 = .ok (.bipush 116, 2) := by decide +kernel
theorem dX9_does_8 : decode cX9_does 8 = .ok (.if_icmp .ne 44, 3) := by decide +kernel
theorem dX9_does_11 : decode cX9_does 11 = .ok (.aload_n 0, 1) := by decide +kernel
theorem dX9_does_12 : decode cX9_does 12 = .ok (.aload_n 0, 1) := by decide +kernel
theorem dX9_does_13 : decode cX9_does 13 = .ok (.getfield 228, 3) := by decide +kernel
theorem dX9_does_16 : decode cX9_does 16 = .ok (.aload_n 0, 1) := by decide +kernel
theorem dX9_does_17 : decode cX9_does 17 = .ok (.getfield 231, 3) := by decide +kernel
theorem dX9_does_20 : decode cX9_does 20 = .ok (.invokevirtual 105, 3) := by decide +kernel
theorem dX9_does_23 : decode cX9_does 23 = .ok (.ifCond .ne 7, 3) := by decide +kernel
theorem dX9_does_26 : decode cX9_does 26 = .ok (.iconst 1, 1) := by decide +kernel
theorem dX9_does_27 : decode cX9_does 27 = .ok (.goto 4, 3) := by decide +kernel
theorem dX9_does_30 : decode cX9_does 30 = .ok (.iconst 0, 1) := by decide +kernel
theorem dX9_does_31 : decode cX9_does 31 = .ok (.istore_n 1, 1) := by decide +kernel
theorem dX9_does_32 : decode cX9_does 32 = .ok (.iload_n 1, 1) := by decide +kernel
theorem dX9_does_33 : decode cX9_does 33 = .ok (.ifCond .eq 191, 3) := by decide +kernel
theorem dX9_does_36 : decode cX9_does 36 = .ok (.aload_n 0, 1) := by decide +kernel
theorem dX9_does_37 : decode cX9_does 37 = .ok (.aload_n 0, 1) := by decide +kernel
theorem dX9_does_38 : decode cX9_does 38 = .ok (.getfield 228, 3) := by decide +kernel
theorem dX9_does_41 : decode cX9_does 41 = .ok (.aload_n 0, 1) := by decide +kernel
theorem dX9_does_42 : decode cX9_does 42 = .ok (.getfield 231, 3) := by decide +kernel
theorem dX9_does_45 : decode cX9_does 45 = .ok (.invokevirtual 108, 3) := by decide +kernel
theorem dX9_does_48 : decode cX9_does 48 = .ok (.pop, 1) := by decide +kernel
theorem dX9_does_49 : decode cX9_does 49 = .ok (.goto 175, 3) := by decide +kernel
theorem dX9_does_52 : decode cX9_does 52 = .ok (.aload_n 0, 1) := by decide +kernel
theorem dX9_does_53 : decode cX9_does 53 = .ok (.getfield 225, 3) := by decide +kernel
theorem dX9_does_56 : decode cX9_does 56 = .ok (.bipush 119, 2) := by decide +kernel
theorem dX9_does_58 : decode cX9_does 58 = .ok (.if_icmp .ne 21, 3) := by decide +kernel
theorem dX9_does_61 : decode cX9_does 61 = .ok (.aload_n 0, 1) := by decide +kernel
theorem dX9_does_62 : decode cX9_does 62 = .ok (.getfield 7, 3) := by decide +kernel
theorem dX9_does_65 : decode cX9_does 65 = .ok (.iconst 5, 1) := by decide +kernel
theorem dX9_does_66 : decode cX9_does 66 = .ok (.aload_n 0, 1) := by decide +kernel
theorem dX9_does_67 : decode cX9_does 67 = .ok (.getfield 228, 3) := by decide +kernel
theorem dX9_does_70 : decode cX9_does 70 = .ok (.iadd, 1) := by decide +kernel
theorem dX9_does_71 : decode cX9_does 71 = .ok (.aload_n 0, 1) := by decide +kernel
theorem dX9_does_72 : decode cX9_does 72 = .ok (.getfield 231, 3) := by decide +kernel
theorem dX9_does_75 : decode cX9_does 75 = .ok (.iastore, 1) := by decide +kernel
theorem dX9_does_76 : decode cX9_does 76 = .ok (.goto 148, 3) := by decide +kernel
theorem dX9_does_79 : decode cX9_does 79 = .ok (.aload_n 0, 1) := by decide +kernel
theorem dX9_does_80 : decode cX9_does 80 = .ok (.getfield 225, 3) := by decide +kernel
theorem dX9_does_83 : decode cX9_does 83 = .ok (.bipush 97, 2) := by decide +kernel
theorem dX9_does_85 : decode cX9_does 85 = .ok (.if_icmp .ne 60, 3) := by decide +kernel
theorem dX9_does_88 : decode cX9_does 88 = .ok (.aload_n 0, 1) := by decide +kernel
theorem dX9_does_89 : decode cX9_does 89 = .ok (.aload_n 0, 1) := by decide +kernel
theorem dX9_does_90 : decode cX9_does 90 = .ok (.getfield 228, 3) := by decide +kernel
theorem dX9_does_93 : decode cX9_does 93 = .ok (.aload_n 0, 1) := by decide +kernel
theorem dX9_does_94 : decode cX9_does 94 = .ok (.getfield 213, 3) := by decide +kernel
theorem dX9_does_97 : decode cX9_does 97 = .ok (.aload_n 0, 1) := by decide +kernel
theorem dX9_does_98 : decode cX9_does 98 = .ok (.getfield 219, 3) := by decide +kernel
theorem dX9_does_101 : decode cX9_does 101 = .ok (.aload_n 0, 1) := by decide +kernel
theorem dX9_does_102 : decode cX9_does 102 = .ok (.getfield 222, 3) := by decide +kernel
theorem dX9_does_105 : decode cX9_does 105 = .ok (.invokevirtual 125, 3) := by decide +kernel
theorem dX9_does_108 : decode cX9_does 108 = .ok (.ifCond .ne 7, 3) := by decide +kernel
theorem dX9_does_111 : decode cX9_does 111 = .ok (.iconst 1, 1) := by decide +kernel
theorem dX9_does_112 : decode cX9_does 112 = .ok (.goto 4, 3) := by decide +kernel
theorem dX9_does_115 : decode cX9_does 115 = .ok (.iconst 0, 1) := by decide +kernel
theorem dX9_does_116 : decode cX9_does 116 = .ok (.istore_n 1, 1) := by decide +kernel
theorem dX9_does_117 : decode cX9_does 117 = .ok (.iload_n 1, 1) := by decide +kernel
theorem dX9_does_118 : decode cX9_does 118 = .ok (.ifCond .eq 106, 3) := by decide +kernel
theorem dX9_does_121 : decode cX9_does 121 = .ok (.aload_n 0, 1) := by decide +kernel
theorem dX9_does_122 : decode cX9_does 122 = .ok (.aload_n 0, 1) := by decide +kernel
theorem dX9_does_123 : decode cX9_does 123 = .ok (.getfield 228, 3) := by decide +kernel
theorem dX9_does_126 : decode cX9_does 126 = .ok (.aload_n 0, 1) := by decide +kernel
theorem dX9_does_127 : decode cX9_does 127 = .ok (.getfield 213, 3) := by decide +kernel
theorem dX9_does_130 : decode cX9_does 130 = .ok (.aload_n 0, 1) := by decide +kernel
theorem dX9_does_131 : decode cX9_does 131 = .ok (.getfield 219, 3) := by decide +kernel
theorem dX9_does_134 : decode cX9_does 134 = .ok (.aload_n 0, 1) := by decide +kernel
theorem dX9_does_135 : decode cX9_does 135 = .ok (.getfield 222, 3) := by decide +kernel
theorem dX9_does_138 : decode cX9_does 138 = .ok (.invokevirtual 128, 3) := by decide +kernel
theorem dX9_does_141 : decode cX9_does 141 = .ok (.pop, 1) := by decide +kernel
theorem dX9_does_142 : decode cX9_does 142 = .ok (.goto 82, 3) := by decide +kernel
theorem dX9_does_145 : decode cX9_does 145 = .ok (.aload_n 0, 1) := by decide +kernel
theorem dX9_does_146 : decode cX9_does 146 = .ok (.getfield 225, 3) := by decide +kernel
theorem dX9_does_149 : decode cX9_does 149 = .ok (.bipush 98, 2) := by decide +kernel
theorem dX9_does_151 : decode cX9_does 151 = .ok (.if_icmp .ne 68, 3) := by decide +kernel
theorem dX9_does_154 : decode cX9_does 154 = .ok (.aload_n 0, 1) := by decide +kernel
theorem dX9_does_155 : decode cX9_does 155 = .ok (.aload_n 0, 1) := by decide +kernel
theorem dX9_does_156 : decode cX9_does 156 = .ok (.getfield 228, 3) := by decide +kernel
theorem dX9_does_159 : decode cX9_does 159 = .ok (.aload_n 0, 1) := by decide +kernel
theorem dX9_does_160 : decode cX9_does 160 = .ok (.getfield 231, 3) := by decide +kernel
theorem dX9_does_163 : decode cX9_does 163 = .ok (.aload_n 0, 1) := by decide +kernel
theorem dX9_does_164 : decode cX9_does 164 = .ok (.getfield 213, 3) := by decide +kernel
theorem dX9_does_167 : decode cX9_does 167 = .ok (.aload_n 0, 1) := by decide +kernel
theorem dX9_does_168 : decode cX9_does 168 = .ok (.getfield 219, 3) := by decide +kernel
theorem dX9_does_171 : decode cX9_does 171 = .ok (.aload_n 0, 1) := by decide +kernel
theorem dX9_does_172 : decode cX9_does 172 = .ok (.getfield 222, 3) := by decide +kernel
theorem dX9_does_175 : decode cX9_does 175 = .ok (.invokevirtual 131, 3) := by decide +kernel
theorem dX9_does_178 : decode cX9_does 178 = .ok (.ifCond .ne 7, 3) := by decide +kernel
theorem dX9_does_181 : decode cX9_does 181 = .ok (.iconst 1, 1) := by decide +kernel
theorem dX9_does_182 : decode cX9_does 182 = .ok (.goto 4, 3) := by decide +kernel
theorem dX9_does_185 : decode cX9_does 185 = .ok (.iconst 0, 1) := by decide +kernel
theorem dX9_does_186 : decode cX9_does 186 = .ok (.istore_n 1, 1) := by decide +kernel
theorem dX9_does_187 : decode cX9_does 187 = .ok (.iload_n 1, 1) := by decide +kernel
theorem dX9_does_188 : decode cX9_does 188 = .ok (.ifCond .eq 36, 3) := by decide +kernel
theorem dX9_does_191 : decode cX9_does 191 = .ok (.aload_n 0, 1) := by decide +kernel
theorem dX9_does_192 : decode cX9_does 192 = .ok (.aload_n 0, 1) := by decide +kernel
theorem dX9_does_193 : decode cX9_does 193 = .ok (.getfield 228, 3) := by decide +kernel
theorem dX9_does_196 : decode cX9_does 196 = .ok (.aload_n 0, 1) := by decide +kernel
theorem dX9_does_197 : decode cX9_does 197 = .ok (.getfield 231, 3) := by decide +kernel
theorem dX9_does_200 : decode cX9_does 200 = .ok (.aload_n 0, 1) := by decide +kernel
theorem dX9_does_201 : decode cX9_does 201 = .ok (.getfield 213, 3) := by decide +kernel
theorem dX9_does_204 : decode cX9_does 204 = .ok (.aload_n 0, 1) := by decide +kernel
theorem dX9_does_205 : decode cX9_does 205 = .ok (.getfield 219, 3) := by decide +kernel
theorem dX9_does_208 : decode cX9_does 208 = .ok (.aload_n 0, 1) := by decide +kernel
theorem dX9_does_209 : decode cX9_does 209 = .ok (.getfield 222, 3) := by decide +kernel
theorem dX9_does_212 : decode cX9_does 212 = .ok (.invokevirtual 135, 3) := by decide +kernel
theorem dX9_does_215 : decode cX9_does 215 = .ok (.pop, 1) := by decide +kernel
theorem dX9_does_216 : decode cX9_does 216 = .ok (.goto 8, 3) := by decide +kernel
theorem dX9_does_219 : decode cX9_does 219 = .ok (.aload_n 0, 1) := by decide +kernel
theorem dX9_does_220 : decode cX9_does 220 = .ok (.invokevirtual 160, 3) := by decide +kernel
theorem dX9_does_223 : decode cX9_does 223 = .ok (.pop, 1) := by decide +kernel
theorem dX9_does_224 : decode cX9_does 224 = .ok (.iload_n 1, 1) := by decide +kernel
theorem dX9_does_225 : decode cX9_does 225 = .ok (.ireturn, 1) := by decide +kernel
theorem dX9_carryOut_0 : decode cX9_carryOut 0 = .ok (.aload_n 0, 1) := by decide +kernel
theorem dX9_carryOut_1 : decode cX9_carryOut 1 = .ok (.invokevirtual 241, 3) := by decide +kernel
theorem dX9_carryOut_4 : decode cX9_carryOut 4 = .ok (.bipush (-6), 2) := by decide +kernel
theorem dX9_carryOut_6 : decode cX9_carryOut 6 = .ok (.if_icmp .eq 6, 3) := by decide +kernel
theorem dX9_carryOut_9 : decode cX9_carryOut 9 = .ok (.bipush (-3), 2) := by decide +kernel
theorem dX9_carryOut_11 : decode cX9_carryOut 11 = .ok (.ireturn, 1) := by decide +kernel
theorem dX9_carryOut_12 : decode cX9_carryOut 12 = .ok (.aload_n 0, 1) := by decide +kernel
theorem dX9_carryOut_13 : decode cX9_carryOut 13 = .ok (.invokevirtual 99, 3) := by decide +kernel
theorem dX9_carryOut_16 : decode cX9_carryOut 16 = .ok (.iconst 0, 1) := by decide +kernel
theorem dX9_carryOut_17 : decode cX9_carryOut 17 = .ok (.istore_n 1, 1) := by decide +kernel
theorem dX9_carryOut_18 : decode cX9_carryOut 18 = .ok (.aload_n 0, 1) := by decide +kernel
theorem dX9_carryOut_19 : decode cX9_carryOut 19 = .ok (.iconst 0, 1) := by decide +kernel
theorem dX9_carryOut_20 : decode cX9_carryOut 20 = .ok (.putfield 201, 3) := by decide +kernel
theorem dX9_carryOut_23 : decode cX9_carryOut 23 = .ok (.iconst 1, 1) := by decide +kernel
theorem dX9_carryOut_24 : decode cX9_carryOut 24 = .ok (.istore_n 2, 1) := by decide +kernel
theorem dX9_carryOut_25 : decode cX9_carryOut 25 = .ok (.iload_n 2, 1) := by decide +kernel
theorem dX9_carryOut_26 : decode cX9_carryOut 26 = .ok (.ifCond .eq 46, 3) := by decide +kernel
theorem dX9_carryOut_29 : decode cX9_carryOut 29 = .ok (.aload_n 0, 1) := by decide +kernel
theorem dX9_carryOut_30 : decode cX9_carryOut 30 = .ok (.getfield 201, 3) := by decide +kernel
theorem dX9_carryOut_33 : decode cX9_carryOut 33 = .ok (.aload_n 0, 1) := by decide +kernel
theorem dX9_carryOut_34 : decode cX9_carryOut 34 = .ok (.getfield 183, 3) := by decide +kernel
theorem dX9_carryOut_37 : decode cX9_carryOut 37 = .ok (.if_icmp .ge 35, 3) := by decide +kernel
theorem dX9_carryOut_40 : decode cX9_carryOut 40 = .ok (.aload_n 0, 1) := by decide +kernel
theorem dX9_carryOut_41 : decode cX9_carryOut 41 = .ok (.invokevirtual 238, 3) := by decide +kernel
theorem dX9_carryOut_44 : decode cX9_carryOut 44 = .ok (.pop, 1) := by decide +kernel
theorem dX9_carryOut_45 : decode cX9_carryOut 45 = .ok (.aload_n 0, 1) := by decide +kernel
theorem dX9_carryOut_46 : decode cX9_carryOut 46 = .ok (.bipush 59, 2) := by decide +kernel
theorem dX9_carryOut_48 : decode cX9_carryOut 48 = .ok (.invokevirtual 210, 3) := by decide +kernel
theorem dX9_carryOut_51 : decode cX9_carryOut 51 = .ok (.pop, 1) := by decide +kernel
theorem dX9_carryOut_52 : decode cX9_carryOut 52 = .ok (.aload_n 0, 1) := by decide +kernel
theorem dX9_carryOut_53 : decode cX9_carryOut 53 = .ok (.invokevirtual 244, 3) := by decide +kernel
theorem dX9_carryOut_56 : decode cX9_carryOut 56 = .ok (.istore_n 2, 1) := by decide +kernel
theorem dX9_carryOut_57 : decode cX9_carryOut 57 = .ok (.iload_n 1, 1) := by decide +kernel
theorem dX9_carryOut_58 : decode cX9_carryOut 58 = .ok (.iload_n 2, 1) := by decide +kernel
theorem dX9_carryOut_59 : decode cX9_carryOut 59 = .ok (.ifCond .eq 7, 3) := by decide +kernel
theorem dX9_carryOut_62 : decode cX9_carryOut 62 = .ok (.iconst 1, 1) := by decide +kernel
theorem dX9_carryOut_63 : decode cX9_carryOut 63 = .ok (.goto 4, 3) := by decide +kernel
theorem dX9_carryOut_66 : decode cX9_carryOut 66 = .ok (.iconst 0, 1) := by decide +kernel
theorem dX9_carryOut_67 : decode cX9_carryOut 67 = .ok (.iadd, 1) := by decide +kernel
theorem dX9_carryOut_68 : decode cX9_carryOut 68 = .ok (.istore_n 1, 1) := by decide +kernel
theorem dX9_carryOut_69 : decode cX9_carryOut 69 = .ok (.goto (-44), 3) := by decide +kernel
theorem dX9_carryOut_72 : decode cX9_carryOut 72 = .ok (.aload_n 0, 1) := by decide +kernel
theorem dX9_carryOut_73 : decode cX9_carryOut 73 = .ok (.iconst 0, 1) := by decide +kernel
theorem dX9_carryOut_74 : decode cX9_carryOut 74 = .ok (.putfield 183, 3) := by decide +kernel
theorem dX9_carryOut_77 : decode cX9_carryOut 77 = .ok (.iload_n 1, 1) := by decide +kernel
theorem dX9_carryOut_78 : decode cX9_carryOut 78 = .ok (.ireturn, 1) := by decide +kernel
theorem dX9_undo_0 : decode cX9_undo 0 = .ok (.aload_n 0, 1) := by decide +kernel
theorem dX9_undo_1 : decode cX9_undo 1 = .ok (.getfield 34, 3) := by decide +kernel
theorem dX9_undo_4 : decode cX9_undo 4 = .ok (.ifCond .ne 6, 3) := by decide +kernel
theorem dX9_undo_7 : decode cX9_undo 7 = .ok (.bipush (-5), 2) := by decide +kernel
theorem dX9_undo_9 : decode cX9_undo 9 = .ok (.ireturn, 1) := by decide +kernel
theorem dX9_undo_10 : decode cX9_undo 10 = .ok (.aload_n 0, 1) := by decide +kernel
theorem dX9_undo_11 : decode cX9_undo 11 = .ok (.dup, 1) := by decide +kernel
theorem dX9_undo_12 : decode cX9_undo 12 = .ok (.getfield 34, 3) := by decide +kernel
theorem dX9_undo_15 : decode cX9_undo 15 = .ok (.iconst 1, 1) := by decide +kernel
theorem dX9_undo_16 : decode cX9_undo 16 = .ok (.isub, 1) := by decide +kernel
theorem dX9_undo_17 : decode cX9_undo 17 = .ok (.putfield 34, 3) := by decide +kernel
theorem dX9_undo_20 : decode cX9_undo 20 = .ok (.aload_n 0, 1) := by decide +kernel
theorem dX9_undo_21 : decode cX9_undo 21 = .ok (.getfield 13, 3) := by decide +kernel
theorem dX9_undo_24 : decode cX9_undo 24 = .ok (.aload_n 0, 1) := by decide +kernel
theorem dX9_undo_25 : decode cX9_undo 25 = .ok (.getfield 34, 3) := by decide +kernel
theorem dX9_undo_28 : decode cX9_undo 28 = .ok (.sipush 489, 3) := by decide +kernel
theorem dX9_undo_31 : decode cX9_undo 31 = .ok (.imul, 1) := by decide +kernel
theorem dX9_undo_32 : decode cX9_undo 32 = .ok (.aload_n 0, 1) := by decide +kernel
theorem dX9_undo_33 : decode cX9_undo 33 = .ok (.getfield 7, 3) := by decide +kernel
theorem dX9_undo_36 : decode cX9_undo 36 = .ok (.iconst 0, 1) := by decide +kernel
theorem dX9_undo_37 : decode cX9_undo 37 = .ok (.invokestatic 38, 3) := by decide +kernel
theorem dX9_undo_40 : decode cX9_undo 40 = .ok (.aload_n 0, 1) := by decide +kernel
theorem dX9_undo_41 : decode cX9_undo 41 = .ok (.getfield 34, 3) := by decide +kernel
theorem dX9_undo_44 : decode cX9_undo 44 = .ok (.ireturn, 1) := by decide +kernel
theorem dX9_save_0 : decode cX9_save 0 = .ok (.iload_n 1, 1) := by decide +kernel
theorem dX9_save_1 : decode cX9_save 1 = .ok (.iconst 0, 1) := by decide +kernel
theorem dX9_save_2 : decode cX9_save 2 = .ok (.iconst 1, 1) := by decide +kernel
theorem dX9_save_3 : decode cX9_save 3 = .ok (.invokestatic 42, 3) := by decide +kernel
theorem dX9_save_6 : decode cX9_save 6 = .ok (.ifCond .ne 6, 3) := by decide +kernel
theorem dX9_save_9 : decode cX9_save 9 = .ok (.bipush (-2), 2) := by decide +kernel
theorem dX9_save_11 : decode cX9_save 11 = .ok (.ireturn, 1) := by decide +kernel
theorem dX9_save_12 : decode cX9_save 12 = .ok (.aload_n 0, 1) := by decide +kernel
theorem dX9_save_13 : decode cX9_save 13 = .ok (.getfield 7, 3) := by decide +kernel
theorem dX9_save_16 : decode cX9_save 16 = .ok (.iconst 0, 1) := by decide +kernel
theorem dX9_save_17 : decode cX9_save 17 = .ok (.aload_n 0, 1) := by decide +kernel
theorem dX9_save_18 : decode cX9_save 18 = .ok (.getfield 16, 3) := by decide +kernel
theorem dX9_save_21 : decode cX9_save 21 = .ok (.sipush 489, 3) := by decide +kernel
theorem dX9_save_24 : decode cX9_save 24 = .ok (.iload_n 1, 1) := by decide +kernel
theorem dX9_save_25 : decode cX9_save 25 = .ok (.imul, 1) := by decide +kernel
theorem dX9_save_26 : decode cX9_save 26 = .ok (.invokestatic 38, 3) := by decide +kernel
theorem dX9_save_29 : decode cX9_save 29 = .ok (.aload_n 0, 1) := by decide +kernel
theorem dX9_save_30 : decode cX9_save 30 = .ok (.getfield 19, 3) := by decide +kernel
theorem dX9_save_33 : decode cX9_save 33 = .ok (.iload_n 1, 1) := by decide +kernel
theorem dX9_save_34 : decode cX9_save 34 = .ok (.iconst 1, 1) := by decide +kernel
theorem dX9_save_35 : decode cX9_save 35 = .ok (.iastore, 1) := by decide +kernel
theorem dX9_save_36 : decode cX9_save 36 = .ok (.aload_n 0, 1) := by decide +kernel
theorem dX9_save_37 : decode cX9_save 37 = .ok (.getfield 7, 3) := by decide +kernel
theorem dX9_save_40 : decode cX9_save 40 = .ok (.iconst 0, 1) := by decide +kernel
theorem dX9_save_41 : decode cX9_save 41 = .ok (.iaload, 1) := by decide +kernel
theorem dX9_save_42 : decode cX9_save 42 = .ok (.ireturn, 1) := by decide +kernel
theorem dX9_restore_0 : decode cX9_restore 0 = .ok (.iload_n 1, 1) := by decide +kernel
theorem dX9_restore_1 : decode cX9_restore 1 = .ok (.iconst 0, 1) := by decide +kernel
theorem dX9_restore_2 : decode cX9_restore 2 = .ok (.iconst 1, 1) := by decide +kernel
theorem dX9_restore_3 : decode cX9_restore 3 = .ok (.invokestatic 42, 3) := by decide +kernel
theorem dX9_restore_6 : decode cX9_restore 6 = .ok (.ifCond .ne 6, 3) := by decide +kernel
theorem dX9_restore_9 : decode cX9_restore 9 = .ok (.bipush (-2), 2) := by decide +kernel
theorem dX9_restore_11 : decode cX9_restore 11 = .ok (.ireturn, 1) := by decide +kernel
theorem dX9_restore_12 : decode cX9_restore 12 = .ok (.aload_n 0, 1) := by decide +kernel
theorem dX9_restore_13 : decode cX9_restore 13 = .ok (.getfield 19, 3) := by decide +kernel
theorem dX9_restore_16 : decode cX9_restore 16 = .ok (.iload_n 1, 1) := by decide +kernel
theorem dX9_restore_17 : decode cX9_restore 17 = .ok (.iaload, 1) := by decide +kernel
theorem dX9_restore_18 : decode cX9_restore 18 = .ok (.ifCond .ne 6, 3) := by decide +kernel
theorem dX9_restore_21 : decode cX9_restore 21 = .ok (.bipush (-5), 2) := by decide +kernel
theorem dX9_restore_23 : decode cX9_restore 23 = .ok (.ireturn, 1) := by decide +kernel
theorem dX9_restore_24 : decode cX9_restore 24 = .ok (.aload_n 0, 1) := by decide +kernel
theorem dX9_restore_25 : decode cX9_restore 25 = .ok (.invokevirtual 99, 3) := by decide +kernel
theorem dX9_restore_28 : decode cX9_restore 28 = .ok (.aload_n 0, 1) := by decide +kernel
theorem dX9_restore_29 : decode cX9_restore 29 = .ok (.getfield 16, 3) := by decide +kernel
theorem dX9_restore_32 : decode cX9_restore 32 = .ok (.sipush 489, 3) := by decide +kernel
theorem dX9_restore_35 : decode cX9_restore 35 = .ok (.iload_n 1, 1) := by decide +kernel
theorem dX9_restore_36 : decode cX9_restore 36 = .ok (.imul, 1) := by decide +kernel
theorem dX9_restore_37 : decode cX9_restore 37 = .ok (.aload_n 0, 1) := by decide +kernel
theorem dX9_restore_38 : decode cX9_restore 38 = .ok (.getfield 7, 3) := by decide +kernel
theorem dX9_restore_41 : decode cX9_restore 41 = .ok (.iconst 0, 1) := by decide +kernel
theorem dX9_restore_42 : decode cX9_restore 42 = .ok (.invokestatic 38, 3) := by decide +kernel
theorem dX9_restore_45 : decode cX9_restore 45 = .ok (.aload_n 0, 1) := by decide +kernel
theorem dX9_restore_46 : decode cX9_restore 46 = .ok (.getfield 7, 3) := by decide +kernel
theorem dX9_restore_49 : decode cX9_restore 49 = .ok (.iconst 0, 1) := by decide +kernel
theorem dX9_restore_50 : decode cX9_restore 50 = .ok (.iaload, 1) := by decide +kernel
theorem dX9_restore_51 : decode cX9_restore 51 = .ok (.ireturn, 1) := by decide +kernel
