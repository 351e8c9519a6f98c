theorem dJ6_bitCount_0f7a4_0 : decode cJ6_bitCount_0f7a4 0 = .ok (.iload_n 0, 1) := dk_26 hN_cJ6_bitCount_0f7a4 rfl rfl
theorem dJ6_bitCount_0f7a4_1 : decode cJ6_bitCount_0f7a4 1 = .ok (.iload_n 0, 1) := dk_26 hN_cJ6_bitCount_0f7a4 rfl rfl
theorem dJ6_bitCount_0f7a4_2 : decode cJ6_bitCount_0f7a4 2 = .ok (.iconst 1, 1) := dk_4 hN_cJ6_bitCount_0f7a4 rfl rfl
theorem dJ6_bitCount_0f7a4_3 : decode cJ6_bitCount_0f7a4 3 = .ok (.iushr, 1) := dk_124 hN_cJ6_bitCount_0f7a4 rfl rfl
theorem dJ6_bitCount_0f7a4_4 : decode cJ6_bitCount_0f7a4 4 = .ok (.ldc_w 265, 3) := dk_19 hN_cJ6_bitCount_0f7a4 rfl rfl rfl
theorem dJ6_bitCount_0f7a4_7 : decode cJ6_bitCount_0f7a4 7 = .ok (.iand, 1) := dk_126 hN_cJ6_bitCount_0f7a4 rfl rfl
theorem dJ6_bitCount_0f7a4_8 : decode cJ6_bitCount_0f7a4 8 = .ok (.isub, 1) := dk_100 hN_cJ6_bitCount_0f7a4 rfl rfl
theorem dJ6_bitCount_0f7a4_9 : decode cJ6_bitCount_0f7a4 9 = .ok (.istore_n 0, 1) := dk_59 hN_cJ6_bitCount_0f7a4 rfl rfl
theorem dJ6_bitCount_0f7a4_10 : decode cJ6_bitCount_0f7a4 10 = .ok (.iload_n 0, 1) := dk_26 hN_cJ6_bitCount_0f7a4 rfl rfl
theorem dJ6_bitCount_0f7a4_11 : decode cJ6_bitCount_0f7a4 11 = .ok (.ldc_w 266, 3) := dk_19 hN_cJ6_bitCount_0f7a4 rfl rfl rfl
theorem dJ6_bitCount_0f7a4_14 : decode cJ6_bitCount_0f7a4 14 = .ok (.iand, 1) := dk_126 hN_cJ6_bitCount_0f7a4 rfl rfl
theorem dJ6_bitCount_0f7a4_15 : decode cJ6_bitCount_0f7a4 15 = .ok (.iload_n 0, 1) := dk_26 hN_cJ6_bitCount_0f7a4 rfl rfl
theorem dJ6_bitCount_0f7a4_16 : decode cJ6_bitCount_0f7a4 16 = .ok (.iconst 2, 1) := dk_5 hN_cJ6_bitCount_0f7a4 rfl rfl
theorem dJ6_bitCount_0f7a4_17 : decode cJ6_bitCount_0f7a4 17 = .ok (.iushr, 1) := dk_124 hN_cJ6_bitCount_0f7a4 rfl rfl
theorem dJ6_bitCount_0f7a4_18 : decode cJ6_bitCount_0f7a4 18 = .ok (.ldc_w 266, 3) := dk_19 hN_cJ6_bitCount_0f7a4 rfl rfl rfl
theorem dJ6_bitCount_0f7a4_21 : decode cJ6_bitCount_0f7a4 21 = .ok (.iand, 1) := dk_126 hN_cJ6_bitCount_0f7a4 rfl rfl
theorem dJ6_bitCount_0f7a4_22 : decode cJ6_bitCount_0f7a4 22 = .ok (.iadd, 1) := dk_96 hN_cJ6_bitCount_0f7a4 rfl rfl
theorem dJ6_bitCount_0f7a4_23 : decode cJ6_bitCount_0f7a4 23 = .ok (.istore_n 0, 1) := dk_59 hN_cJ6_bitCount_0f7a4 rfl rfl
theorem dJ6_bitCount_0f7a4_24 : decode cJ6_bitCount_0f7a4 24 = .ok (.iload_n 0, 1) := dk_26 hN_cJ6_bitCount_0f7a4 rfl rfl
theorem dJ6_bitCount_0f7a4_25 : decode cJ6_bitCount_0f7a4 25 = .ok (.iload_n 0, 1) := dk_26 hN_cJ6_bitCount_0f7a4 rfl rfl
theorem dJ6_bitCount_0f7a4_26 : decode cJ6_bitCount_0f7a4 26 = .ok (.iconst 4, 1) := dk_7 hN_cJ6_bitCount_0f7a4 rfl rfl
theorem dJ6_bitCount_0f7a4_27 : decode cJ6_bitCount_0f7a4 27 = .ok (.iushr, 1) := dk_124 hN_cJ6_bitCount_0f7a4 rfl rfl
theorem dJ6_bitCount_0f7a4_28 : decode cJ6_bitCount_0f7a4 28 = .ok (.iadd, 1) := dk_96 hN_cJ6_bitCount_0f7a4 rfl rfl
theorem dJ6_bitCount_0f7a4_29 : decode cJ6_bitCount_0f7a4 29 = .ok (.ldc_w 267, 3) := dk_19 hN_cJ6_bitCount_0f7a4 rfl rfl rfl
theorem dJ6_bitCount_0f7a4_32 : decode cJ6_bitCount_0f7a4 32 = .ok (.iand, 1) := dk_126 hN_cJ6_bitCount_0f7a4 rfl rfl
theorem dJ6_bitCount_0f7a4_33 : decode cJ6_bitCount_0f7a4 33 = .ok (.istore_n 0, 1) := dk_59 hN_cJ6_bitCount_0f7a4 rfl rfl
theorem dJ6_bitCount_0f7a4_34 : decode cJ6_bitCount_0f7a4 34 = .ok (.iload_n 0, 1) := dk_26 hN_cJ6_bitCount_0f7a4 rfl rfl
theorem dJ6_bitCount_0f7a4_35 : decode cJ6_bitCount_0f7a4 35 = .ok (.iload_n 0, 1) := dk_26 hN_cJ6_bitCount_0f7a4 rfl rfl
theorem dJ6_bitCount_0f7a4_36 : decode cJ6_bitCount_0f7a4 36 = .ok (.bipush 8, 2) := dk_16 hN_cJ6_bitCount_0f7a4 rfl rfl rfl
theorem dJ6_bitCount_0f7a4_38 : decode cJ6_bitCount_0f7a4 38 = .ok (.iushr, 1) := dk_124 hN_cJ6_bitCount_0f7a4 rfl rfl
theorem dJ6_bitCount_0f7a4_39 : decode cJ6_bitCount_0f7a4 39 = .ok (.iadd, 1) := dk_96 hN_cJ6_bitCount_0f7a4 rfl rfl
theorem dJ6_bitCount_0f7a4_40 : decode cJ6_bitCount_0f7a4 40 = .ok (.istore_n 0, 1) := dk_59 hN_cJ6_bitCount_0f7a4 rfl rfl
theorem dJ6_bitCount_0f7a4_41 : decode cJ6_bitCount_0f7a4 41 = .ok (.iload_n 0, 1) := dk_26 hN_cJ6_bitCount_0f7a4 rfl rfl
theorem dJ6_bitCount_0f7a4_42 : decode cJ6_bitCount_0f7a4 42 = .ok (.iload_n 0, 1) := dk_26 hN_cJ6_bitCount_0f7a4 rfl rfl
theorem dJ6_bitCount_0f7a4_43 : decode cJ6_bitCount_0f7a4 43 = .ok (.bipush 16, 2) := dk_16 hN_cJ6_bitCount_0f7a4 rfl rfl rfl
theorem dJ6_bitCount_0f7a4_45 : decode cJ6_bitCount_0f7a4 45 = .ok (.iushr, 1) := dk_124 hN_cJ6_bitCount_0f7a4 rfl rfl
theorem dJ6_bitCount_0f7a4_46 : decode cJ6_bitCount_0f7a4 46 = .ok (.iadd, 1) := dk_96 hN_cJ6_bitCount_0f7a4 rfl rfl
theorem dJ6_bitCount_0f7a4_47 : decode cJ6_bitCount_0f7a4 47 = .ok (.istore_n 0, 1) := dk_59 hN_cJ6_bitCount_0f7a4 rfl rfl
theorem dJ6_bitCount_0f7a4_48 : decode cJ6_bitCount_0f7a4 48 = .ok (.iload_n 0, 1) := dk_26 hN_cJ6_bitCount_0f7a4 rfl rfl
theorem dJ6_bitCount_0f7a4_49 : decode cJ6_bitCount_0f7a4 49 = .ok (.bipush 63, 2) := dk_16 hN_cJ6_bitCount_0f7a4 rfl rfl rfl
theorem dJ6_bitCount_0f7a4_51 : decode cJ6_bitCount_0f7a4 51 = .ok (.iand, 1) := dk_126 hN_cJ6_bitCount_0f7a4 rfl rfl
theorem dJ6_bitCount_0f7a4_52 : decode cJ6_bitCount_0f7a4 52 = .ok (.ireturn, 1) := dk_172 hN_cJ6_bitCount_0f7a4 rfl rfl
theorem dJ0_length_8abf5_0 : decode cJ0_length_8abf5 0 = .ok (.aload_n 0, 1) := dk_42 hN_cJ0_length_8abf5 rfl rfl
theorem dJ0_length_8abf5_1 : decode cJ0_length_8abf5 1 = .ok (.getfield 9, 3) := dk_180 hN_cJ0_length_8abf5 rfl rfl rfl
theorem dJ0_length_8abf5_4 : decode cJ0_length_8abf5 4 = .ok (.arraylength, 1) := dk_190 hN_cJ0_length_8abf5 rfl rfl
theorem dJ0_length_8abf5_5 : decode cJ0_length_8abf5 5 = .ok (.aload_n 0, 1) := dk_42 hN_cJ0_length_8abf5 rfl rfl
theorem dJ0_length_8abf5_6 : decode cJ0_length_8abf5 6 = .ok (.invokevirtual 335, 3) := dk_182 hN_cJ0_length_8abf5 rfl rfl rfl
theorem dJ0_length_8abf5_9 : decode cJ0_length_8abf5 9 = .ok (.ishr, 1) := dk_122 hN_cJ0_length_8abf5 rfl rfl
theorem dJ0_length_8abf5_10 : decode cJ0_length_8abf5 10 = .ok (.ireturn, 1) := dk_172 hN_cJ0_length_8abf5 rfl rfl
theorem dJ0_charAt_5068e_0 : decode cJ0_charAt_5068e 0 = .ok (.aload_n 0, 1) := dk_42 hN_cJ0_charAt_5068e rfl rfl
theorem dJ0_charAt_5068e_1 : decode cJ0_charAt_5068e 1 = .ok (.invokevirtual 492, 3) := dk_182 hN_cJ0_charAt_5068e rfl rfl rfl
theorem dJ0_charAt_5068e_4 : decode cJ0_charAt_5068e 4 = .ok (.ifCond .eq 12, 3) := dk_153 hN_cJ0_charAt_5068e rfl rfl rfl
theorem dJ0_charAt_5068e_7 : decode cJ0_charAt_5068e 7 = .ok (.aload_n 0, 1) := dk_42 hN_cJ0_charAt_5068e rfl rfl
theorem dJ0_charAt_5068e_8 : decode cJ0_charAt_5068e 8 = .ok (.getfield 9, 3) := dk_180 hN_cJ0_charAt_5068e rfl rfl rfl
theorem dJ0_charAt_5068e_11 : decode cJ0_charAt_5068e 11 = .ok (.iload_n 1, 1) := dk_27 hN_cJ0_charAt_5068e rfl rfl
theorem dJ0_charAt_5068e_12 : decode cJ0_charAt_5068e 12 = .ok (.invokestatic 495, 3) := dk_184 hN_cJ0_charAt_5068e rfl rfl rfl
theorem dJ0_charAt_5068e_15 : decode cJ0_charAt_5068e 15 = .ok (.ireturn, 1) := dk_172 hN_cJ0_charAt_5068e rfl rfl
theorem dJ0_coder_7d493_0 : decode cJ0_coder_7d493 0 = .ok (.getstatic 38, 3) := dk_178 hN_cJ0_coder_7d493 rfl rfl rfl
theorem dJ0_coder_7d493_3 : decode cJ0_coder_7d493 3 = .ok (.ifCond .eq 10, 3) := dk_153 hN_cJ0_coder_7d493 rfl rfl rfl
theorem dJ0_coder_7d493_6 : decode cJ0_coder_7d493 6 = .ok (.aload_n 0, 1) := dk_42 hN_cJ0_coder_7d493 rfl rfl
theorem dJ0_coder_7d493_7 : decode cJ0_coder_7d493 7 = .ok (.getfield 15, 3) := dk_180 hN_cJ0_coder_7d493 rfl rfl rfl
theorem dJ0_coder_7d493_10 : decode cJ0_coder_7d493 10 = .ok (.goto 4, 3) := dk_167 hN_cJ0_coder_7d493 rfl rfl rfl
theorem dJ0_coder_7d493_14 : decode cJ0_coder_7d493 14 = .ok (.ireturn, 1) := dk_172 hN_cJ0_coder_7d493 rfl rfl
theorem dJ0_isLatin1_aae02_0 : decode cJ0_isLatin1_aae02 0 = .ok (.getstatic 38, 3) := dk_178 hN_cJ0_isLatin1_aae02 rfl rfl rfl
theorem dJ0_isLatin1_aae02_3 : decode cJ0_isLatin1_aae02 3 = .ok (.ifCond .eq 14, 3) := dk_153 hN_cJ0_isLatin1_aae02 rfl rfl rfl
theorem dJ0_isLatin1_aae02_6 : decode cJ0_isLatin1_aae02 6 = .ok (.aload_n 0, 1) := dk_42 hN_cJ0_isLatin1_aae02 rfl rfl
theorem dJ0_isLatin1_aae02_7 : decode cJ0_isLatin1_aae02 7 = .ok (.getfield 15, 3) := dk_180 hN_cJ0_isLatin1_aae02 rfl rfl rfl
theorem dJ0_isLatin1_aae02_10 : decode cJ0_isLatin1_aae02 10 = .ok (.ifCond .ne 7, 3) := dk_154 hN_cJ0_isLatin1_aae02 rfl rfl rfl
theorem dJ0_isLatin1_aae02_13 : decode cJ0_isLatin1_aae02 13 = .ok (.iconst 1, 1) := dk_4 hN_cJ0_isLatin1_aae02 rfl rfl
theorem dJ0_isLatin1_aae02_14 : decode cJ0_isLatin1_aae02 14 = .ok (.goto 4, 3) := dk_167 hN_cJ0_isLatin1_aae02 rfl rfl rfl
theorem dJ0_isLatin1_aae02_18 : decode cJ0_isLatin1_aae02 18 = .ok (.ireturn, 1) := dk_172 hN_cJ0_isLatin1_aae02 rfl rfl
theorem dJ0_checkIndex_df160_0 : decode cJ0_checkIndex_df160 0 = .ok (.iload_n 0, 1) := dk_26 hN_cJ0_checkIndex_df160 rfl rfl
theorem dJ0_checkIndex_df160_1 : decode cJ0_checkIndex_df160 1 = .ok (.iload_n 1, 1) := dk_27 hN_cJ0_checkIndex_df160 rfl rfl
theorem dJ0_checkIndex_df160_2 : decode cJ0_checkIndex_df160 2 = .ok (.getstatic 1053, 3) := dk_178 hN_cJ0_checkIndex_df160 rfl rfl rfl
theorem dJ0_checkIndex_df160_5 : decode cJ0_checkIndex_df160 5 = .ok (.invokestatic 1059, 3) := dk_184 hN_cJ0_checkIndex_df160 rfl rfl rfl
theorem dJ0_checkIndex_df160_8 : decode cJ0_checkIndex_df160 8 = .ok (.pop, 1) := dk_87 hN_cJ0_checkIndex_df160 rfl rfl
theorem dJ0_checkIndex_df160_9 : decode cJ0_checkIndex_df160 9 = .ok (.return_, 1) := dk_177 hN_cJ0_checkIndex_df160 rfl rfl
theorem dJ1_charAt_3b067_0 : decode cJ1_charAt_3b067 0 = .ok (.iload_n 1, 1) := dk_27 hN_cJ1_charAt_3b067 rfl rfl
theorem dJ1_charAt_3b067_1 : decode cJ1_charAt_3b067 1 = .ok (.aload_n 0, 1) := dk_42 hN_cJ1_charAt_3b067 rfl rfl
theorem dJ1_charAt_3b067_2 : decode cJ1_charAt_3b067 2 = .ok (.arraylength, 1) := dk_190 hN_cJ1_charAt_3b067 rfl rfl
theorem dJ1_charAt_3b067_3 : decode cJ1_charAt_3b067 3 = .ok (.invokestatic 9, 3) := dk_184 hN_cJ1_charAt_3b067 rfl rfl rfl
theorem dJ1_charAt_3b067_6 : decode cJ1_charAt_3b067 6 = .ok (.aload_n 0, 1) := dk_42 hN_cJ1_charAt_3b067 rfl rfl
theorem dJ1_charAt_3b067_7 : decode cJ1_charAt_3b067 7 = .ok (.iload_n 1, 1) := dk_27 hN_cJ1_charAt_3b067 rfl rfl
theorem dJ1_charAt_3b067_8 : decode cJ1_charAt_3b067 8 = .ok (.baload, 1) := dk_51 hN_cJ1_charAt_3b067 rfl rfl
theorem dJ1_charAt_3b067_9 : decode cJ1_charAt_3b067 9 = .ok (.sipush 255, 3) := dk_17 hN_cJ1_charAt_3b067 rfl rfl rfl
theorem dJ1_charAt_3b067_12 : decode cJ1_charAt_3b067 12 = .ok (.iand, 1) := dk_126 hN_cJ1_charAt_3b067 rfl rfl
theorem dJ1_charAt_3b067_13 : decode cJ1_charAt_3b067 13 = .ok (.i2c, 1) := dk_146 hN_cJ1_charAt_3b067 rfl rfl
theorem dJ1_charAt_3b067_14 : decode cJ1_charAt_3b067 14 = .ok (.ireturn, 1) := dk_172 hN_cJ1_charAt_3b067 rfl rfl
theorem dJ3_checkIndex_8e157_0 : decode cJ3_checkIndex_8e157 0 = .ok (.iload_n 0, 1) := dk_26 hN_cJ3_checkIndex_8e157 rfl rfl
theorem dJ3_checkIndex_8e157_1 : decode cJ3_checkIndex_8e157 1 = .ok (.ifCond .lt 8, 3) := dk_155 hN_cJ3_checkIndex_8e157 rfl rfl rfl
theorem dJ3_checkIndex_8e157_4 : decode cJ3_checkIndex_8e157 4 = .ok (.iload_n 0, 1) := dk_26 hN_cJ3_checkIndex_8e157 rfl rfl
theorem dJ3_checkIndex_8e157_5 : decode cJ3_checkIndex_8e157 5 = .ok (.iload_n 1, 1) := dk_27 hN_cJ3_checkIndex_8e157 rfl rfl
theorem dJ3_checkIndex_8e157_6 : decode cJ3_checkIndex_8e157 6 = .ok (.if_icmp .lt 10, 3) := dk_161 hN_cJ3_checkIndex_8e157 rfl rfl rfl
theorem dJ3_checkIndex_8e157_16 : decode cJ3_checkIndex_8e157 16 = .ok (.iload_n 0, 1) := dk_26 hN_cJ3_checkIndex_8e157 rfl rfl
theorem dJ3_checkIndex_8e157_17 : decode cJ3_checkIndex_8e157 17 = .ok (.ireturn, 1) := dk_172 hN_cJ3_checkIndex_8e157 rfl rfl
theorem dX8_open_0 : decode cX8_open 0 = .ok (.aload_n 0, 1) := dk_42 hN_cX8_open rfl rfl
theorem dX8_open_1 : decode cX8_open 1 = .ok (.aload_n 1, 1) := dk_43 hN_cX8_open rfl rfl
theorem dX8_open_2 : decode cX8_open 2 = .ok (.getfield 24, 3) := dk_180 hN_cX8_open rfl rfl rfl
theorem dX8_open_5 : decode cX8_open 5 = .ok (.putfield 30, 3) := dk_181 hN_cX8_open rfl rfl rfl
theorem dX8_open_8 : decode cX8_open 8 = .ok (.aload_n 0, 1) := dk_42 hN_cX8_open rfl rfl
theorem dX8_open_9 : decode cX8_open 9 = .ok (.aload_n 1, 1) := dk_43 hN_cX8_open rfl rfl
theorem dX8_open_10 : decode cX8_open 10 = .ok (.getfield 31, 3) := dk_180 hN_cX8_open rfl rfl rfl
theorem dX8_open_13 : decode cX8_open 13 = .ok (.putfield 34, 3) := dk_181 hN_cX8_open rfl rfl rfl
theorem dX8_open_16 : decode cX8_open 16 = .ok (.aload_n 0, 1) := dk_42 hN_cX8_open rfl rfl
theorem dX8_open_17 : decode cX8_open 17 = .ok (.aload_n 1, 1) := dk_43 hN_cX8_open rfl rfl
theorem dX8_open_18 : decode cX8_open 18 = .ok (.getfield 35, 3) := dk_180 hN_cX8_open rfl rfl rfl
theorem dX8_open_21 : decode cX8_open 21 = .ok (.putfield 38, 3) := dk_181 hN_cX8_open rfl rfl rfl
theorem dX8_open_24 : decode cX8_open 24 = .ok (.aload_n 1, 1) := dk_43 hN_cX8_open rfl rfl
theorem dX8_open_25 : decode cX8_open 25 = .ok (.getfield 41, 3) := dk_180 hN_cX8_open rfl rfl rfl
theorem dX8_open_28 : decode cX8_open 28 = .ok (.iconst 0, 1) := dk_3 hN_cX8_open rfl rfl
theorem dX8_open_29 : decode cX8_open 29 = .ok (.aload_n 0, 1) := dk_42 hN_cX8_open rfl rfl
theorem dX8_open_30 : decode cX8_open 30 = .ok (.getfield 9, 3) := dk_180 hN_cX8_open rfl rfl rfl
theorem dX8_open_33 : decode cX8_open 33 = .ok (.iconst 0, 1) := dk_3 hN_cX8_open rfl rfl
theorem dX8_open_34 : decode cX8_open 34 = .ok (.bipush 8, 2) := dk_16 hN_cX8_open rfl rfl rfl
theorem dX8_open_36 : decode cX8_open 36 = .ok (.invokestatic 42, 3) := dk_184 hN_cX8_open rfl rfl rfl
theorem dX8_open_39 : decode cX8_open 39 = .ok (.aload_n 1, 1) := dk_43 hN_cX8_open rfl rfl
theorem dX8_open_40 : decode cX8_open 40 = .ok (.getfield 48, 3) := dk_180 hN_cX8_open rfl rfl rfl
theorem dX8_open_43 : decode cX8_open 43 = .ok (.iconst 0, 1) := dk_3 hN_cX8_open rfl rfl
theorem dX8_open_44 : decode cX8_open 44 = .ok (.aload_n 0, 1) := dk_42 hN_cX8_open rfl rfl
theorem dX8_open_45 : decode cX8_open 45 = .ok (.getfield 15, 3) := dk_180 hN_cX8_open rfl rfl rfl
theorem dX8_open_48 : decode cX8_open 48 = .ok (.iconst 0, 1) := dk_3 hN_cX8_open rfl rfl
theorem dX8_open_49 : decode cX8_open 49 = .ok (.bipush 8, 2) := dk_16 hN_cX8_open rfl rfl rfl
theorem dX8_open_51 : decode cX8_open 51 = .ok (.invokestatic 42, 3) := dk_184 hN_cX8_open rfl rfl rfl
theorem dX8_open_54 : decode cX8_open 54 = .ok (.aload_n 1, 1) := dk_43 hN_cX8_open rfl rfl
theorem dX8_open_55 : decode cX8_open 55 = .ok (.getfield 49, 3) := dk_180 hN_cX8_open rfl rfl rfl
theorem dX8_open_58 : decode cX8_open 58 = .ok (.iconst 0, 1) := dk_3 hN_cX8_open rfl rfl
theorem dX8_open_59 : decode cX8_open 59 = .ok (.aload_n 0, 1) := dk_42 hN_cX8_open rfl rfl
theorem dX8_open_60 : decode cX8_open 60 = .ok (.getfield 18, 3) := dk_180 hN_cX8_open rfl rfl rfl
theorem dX8_open_63 : decode cX8_open 63 = .ok (.iconst 0, 1) := dk_3 hN_cX8_open rfl rfl
theorem dX8_open_64 : decode cX8_open 64 = .ok (.bipush 32, 2) := dk_16 hN_cX8_open rfl rfl rfl
theorem dX8_open_66 : decode cX8_open 66 = .ok (.invokestatic 42, 3) := dk_184 hN_cX8_open rfl rfl rfl
theorem dX8_open_69 : decode cX8_open 69 = .ok (.aload_n 0, 1) := dk_42 hN_cX8_open rfl rfl
theorem dX8_open_70 : decode cX8_open 70 = .ok (.invokevirtual 50, 3) := dk_182 hN_cX8_open rfl rfl rfl
theorem dX8_open_73 : decode cX8_open 73 = .ok (.aload_n 0, 1) := dk_42 hN_cX8_open rfl rfl
theorem dX8_open_74 : decode cX8_open 74 = .ok (.dup, 1) := dk_89 hN_cX8_open rfl rfl
theorem dX8_open_75 : decode cX8_open 75 = .ok (.getfield 53, 3) := dk_180 hN_cX8_open rfl rfl rfl
theorem dX8_open_78 : decode cX8_open 78 = .ok (.iconst 1, 1) := dk_4 hN_cX8_open rfl rfl
theorem dX8_open_79 : decode cX8_open 79 = .ok (.iadd, 1) := dk_96 hN_cX8_open rfl rfl
theorem dX8_open_80 : decode cX8_open 80 = .ok (.putfield 53, 3) := dk_181 hN_cX8_open rfl rfl rfl
theorem dX8_open_83 : decode cX8_open 83 = .ok (.return_, 1) := dk_177 hN_cX8_open rfl rfl
theorem dX8_save_0 : decode cX8_save 0 = .ok (.aload_n 1, 1) := dk_43 hN_cX8_save rfl rfl
theorem dX8_save_1 : decode cX8_save 1 = .ok (.iconst 0, 1) := dk_3 hN_cX8_save rfl rfl
theorem dX8_save_2 : decode cX8_save 2 = .ok (.aload_n 0, 1) := dk_42 hN_cX8_save rfl rfl
theorem dX8_save_3 : decode cX8_save 3 = .ok (.getfield 38, 3) := dk_180 hN_cX8_save rfl rfl rfl
theorem dX8_save_6 : decode cX8_save 6 = .ok (.iastore, 1) := dk_79 hN_cX8_save rfl rfl
theorem dX8_save_7 : decode cX8_save 7 = .ok (.aload_n 0, 1) := dk_42 hN_cX8_save rfl rfl
theorem dX8_save_8 : decode cX8_save 8 = .ok (.getfield 9, 3) := dk_180 hN_cX8_save rfl rfl rfl
theorem dX8_save_11 : decode cX8_save 11 = .ok (.iconst 0, 1) := dk_3 hN_cX8_save rfl rfl
theorem dX8_save_12 : decode cX8_save 12 = .ok (.aload_n 1, 1) := dk_43 hN_cX8_save rfl rfl
theorem dX8_save_13 : decode cX8_save 13 = .ok (.iconst 1, 1) := dk_4 hN_cX8_save rfl rfl
theorem dX8_save_14 : decode cX8_save 14 = .ok (.bipush 8, 2) := dk_16 hN_cX8_save rfl rfl rfl
theorem dX8_save_16 : decode cX8_save 16 = .ok (.invokestatic 42, 3) := dk_184 hN_cX8_save rfl rfl rfl
theorem dX8_save_19 : decode cX8_save 19 = .ok (.aload_n 0, 1) := dk_42 hN_cX8_save rfl rfl
theorem dX8_save_20 : decode cX8_save 20 = .ok (.getfield 15, 3) := dk_180 hN_cX8_save rfl rfl rfl
theorem dX8_save_23 : decode cX8_save 23 = .ok (.iconst 0, 1) := dk_3 hN_cX8_save rfl rfl
theorem dX8_save_24 : decode cX8_save 24 = .ok (.aload_n 1, 1) := dk_43 hN_cX8_save rfl rfl
theorem dX8_save_25 : decode cX8_save 25 = .ok (.bipush 9, 2) := dk_16 hN_cX8_save rfl rfl rfl
theorem dX8_save_27 : decode cX8_save 27 = .ok (.bipush 8, 2) := dk_16 hN_cX8_save rfl rfl rfl
theorem dX8_save_29 : decode cX8_save 29 = .ok (.invokestatic 42, 3) := dk_184 hN_cX8_save rfl rfl rfl
theorem dX8_save_32 : decode cX8_save 32 = .ok (.aload_n 0, 1) := dk_42 hN_cX8_save rfl rfl
theorem dX8_save_33 : decode cX8_save 33 = .ok (.getfield 18, 3) := dk_180 hN_cX8_save rfl rfl rfl
theorem dX8_save_36 : decode cX8_save 36 = .ok (.iconst 0, 1) := dk_3 hN_cX8_save rfl rfl
theorem dX8_save_37 : decode cX8_save 37 = .ok (.aload_n 1, 1) := dk_43 hN_cX8_save rfl rfl
theorem dX8_save_38 : decode cX8_save 38 = .ok (.bipush 17, 2) := dk_16 hN_cX8_save rfl rfl rfl
theorem dX8_save_40 : decode cX8_save 40 = .ok (.bipush 32, 2) := dk_16 hN_cX8_save rfl rfl rfl
theorem dX8_save_42 : decode cX8_save 42 = .ok (.invokestatic 42, 3) := dk_184 hN_cX8_save rfl rfl rfl
theorem dX8_save_45 : decode cX8_save 45 = .ok (.return_, 1) := dk_177 hN_cX8_save rfl rfl
theorem dX8_restore_0 : decode cX8_restore 0 = .ok (.aload_n 0, 1) := dk_42 hN_cX8_restore rfl rfl
theorem dX8_restore_1 : decode cX8_restore 1 = .ok (.aload_n 1, 1) := dk_43 hN_cX8_restore rfl rfl
theorem dX8_restore_2 : decode cX8_restore 2 = .ok (.iconst 0, 1) := dk_3 hN_cX8_restore rfl rfl
theorem dX8_restore_3 : decode cX8_restore 3 = .ok (.iaload, 1) := dk_46 hN_cX8_restore rfl rfl
theorem dX8_restore_4 : decode cX8_restore 4 = .ok (.putfield 38, 3) := dk_181 hN_cX8_restore rfl rfl rfl
theorem dX8_restore_7 : decode cX8_restore 7 = .ok (.aload_n 1, 1) := dk_43 hN_cX8_restore rfl rfl
theorem dX8_restore_8 : decode cX8_restore 8 = .ok (.iconst 1, 1) := dk_4 hN_cX8_restore rfl rfl
theorem dX8_restore_9 : decode cX8_restore 9 = .ok (.aload_n 0, 1) := dk_42 hN_cX8_restore rfl rfl
theorem dX8_restore_10 : decode cX8_restore 10 = .ok (.getfield 9, 3) := dk_180 hN_cX8_restore rfl rfl rfl
theorem dX8_restore_13 : decode cX8_restore 13 = .ok (.iconst 0, 1) := dk_3 hN_cX8_restore rfl rfl
theorem dX8_restore_14 : decode cX8_restore 14 = .ok (.bipush 8, 2) := dk_16 hN_cX8_restore rfl rfl rfl
theorem dX8_restore_16 : decode cX8_restore 16 = .ok (.invokestatic 42, 3) := dk_184 hN_cX8_restore rfl rfl rfl
theorem dX8_restore_19 : decode cX8_restore 19 = .ok (.aload_n 1, 1) := dk_43 hN_cX8_restore rfl rfl
theorem dX8_restore_20 : decode cX8_restore 20 = .ok (.bipush 9, 2) := dk_16 hN_cX8_restore rfl rfl rfl
theorem dX8_restore_22 : decode cX8_restore 22 = .ok (.aload_n 0, 1) := dk_42 hN_cX8_restore rfl rfl
theorem dX8_restore_23 : decode cX8_restore 23 = .ok (.getfield 15, 3) := dk_180 hN_cX8_restore rfl rfl rfl
theorem dX8_restore_26 : decode cX8_restore 26 = .ok (.iconst 0, 1) := dk_3 hN_cX8_restore rfl rfl
theorem dX8_restore_27 : decode cX8_restore 27 = .ok (.bipush 8, 2) := dk_16 hN_cX8_restore rfl rfl rfl
theorem dX8_restore_29 : decode cX8_restore 29 = .ok (.invokestatic 42, 3) := dk_184 hN_cX8_restore rfl rfl rfl
theorem dX8_restore_32 : decode cX8_restore 32 = .ok (.aload_n 1, 1) := dk_43 hN_cX8_restore rfl rfl
theorem dX8_restore_33 : decode cX8_restore 33 = .ok (.bipush 17, 2) := dk_16 hN_cX8_restore rfl rfl rfl
theorem dX8_restore_35 : decode cX8_restore 35 = .ok (.aload_n 0, 1) := dk_42 hN_cX8_restore rfl rfl
theorem dX8_restore_36 : decode cX8_restore 36 = .ok (.getfield 18, 3) := dk_180 hN_cX8_restore rfl rfl rfl
theorem dX8_restore_39 : decode cX8_restore 39 = .ok (.iconst 0, 1) := dk_3 hN_cX8_restore rfl rfl
theorem dX8_restore_40 : decode cX8_restore 40 = .ok (.bipush 32, 2) := dk_16 hN_cX8_restore rfl rfl rfl
theorem dX8_restore_42 : decode cX8_restore 42 = .ok (.invokestatic 42, 3) := dk_184 hN_cX8_restore rfl rfl rfl
theorem dX8_restore_45 : decode cX8_restore 45 = .ok (.aload_n 0, 1) := dk_42 hN_cX8_restore rfl rfl
theorem dX8_restore_46 : decode cX8_restore 46 = .ok (.invokevirtual 50, 3) := dk_182 hN_cX8_restore rfl rfl rfl
theorem dX8_restore_49 : decode cX8_restore 49 = .ok (.aload_n 0, 1) := dk_42 hN_cX8_restore rfl rfl
theorem dX8_restore_50 : decode cX8_restore 50 = .ok (.dup, 1) := dk_89 hN_cX8_restore rfl rfl
theorem dX8_restore_51 : decode cX8_restore 51 = .ok (.getfield 53, 3) := dk_180 hN_cX8_restore rfl rfl rfl
theorem dX8_restore_54 : decode cX8_restore 54 = .ok (.iconst 1, 1) := dk_4 hN_cX8_restore rfl rfl
theorem dX8_restore_55 : decode cX8_restore 55 = .ok (.iadd, 1) := dk_96 hN_cX8_restore rfl rfl
theorem dX8_restore_56 : decode cX8_restore 56 = .ok (.putfield 53, 3) := dk_181 hN_cX8_restore rfl rfl rfl
theorem dX8_restore_59 : decode cX8_restore 59 = .ok (.return_, 1) := dk_177 hN_cX8_restore rfl rfl
theorem dX8_clearCoins_0 : decode cX8_clearCoins 0 = .ok (.iconst 0, 1) := dk_3 hN_cX8_clearCoins rfl rfl
theorem dX8_clearCoins_1 : decode cX8_clearCoins 1 = .ok (.istore_n 1, 1) := dk_60 hN_cX8_clearCoins rfl rfl
theorem dX8_clearCoins_2 : decode cX8_clearCoins 2 = .ok (.iload_n 1, 1) := dk_27 hN_cX8_clearCoins rfl rfl
theorem dX8_clearCoins_3 : decode cX8_clearCoins 3 = .ok (.aload_n 0, 1) := dk_42 hN_cX8_clearCoins rfl rfl
theorem dX8_clearCoins_4 : decode cX8_clearCoins 4 = .ok (.getfield 21, 3) := dk_180 hN_cX8_clearCoins rfl rfl rfl
theorem dX8_clearCoins_7 : decode cX8_clearCoins 7 = .ok (.arraylength, 1) := dk_190 hN_cX8_clearCoins rfl rfl
theorem dX8_clearCoins_8 : decode cX8_clearCoins 8 = .ok (.if_icmp .ge 16, 3) := dk_162 hN_cX8_clearCoins rfl rfl rfl
theorem dX8_clearCoins_24 : decode cX8_clearCoins 24 = .ok (.return_, 1) := dk_177 hN_cX8_clearCoins rfl rfl
theorem dX8_clearCoins_11 : decode cX8_clearCoins 11 = .ok (.aload_n 0, 1) := dk_42 hN_cX8_clearCoins rfl rfl
theorem dX8_clearCoins_12 : decode cX8_clearCoins 12 = .ok (.getfield 21, 3) := dk_180 hN_cX8_clearCoins rfl rfl rfl
theorem dX8_clearCoins_15 : decode cX8_clearCoins 15 = .ok (.iload_n 1, 1) := dk_27 hN_cX8_clearCoins rfl rfl
theorem dX8_clearCoins_16 : decode cX8_clearCoins 16 = .ok (.iconst 0, 1) := dk_3 hN_cX8_clearCoins rfl rfl
theorem dX8_clearCoins_17 : decode cX8_clearCoins 17 = .ok (.iastore, 1) := dk_79 hN_cX8_clearCoins rfl rfl
theorem dX8_clearCoins_18 : decode cX8_clearCoins 18 = .ok (.iinc 1 1, 3) := dk_132 hN_cX8_clearCoins rfl rfl rfl rfl
theorem dX8_clearCoins_21 : decode cX8_clearCoins 21 = .ok (.goto (-19), 3) := dk_167 hN_cX8_clearCoins rfl rfl rfl
theorem dX8_hasLook_0 : decode cX8_hasLook 0 = .ok (.iload_n 1, 1) := dk_27 hN_cX8_hasLook rfl rfl
theorem dX8_hasLook_1 : decode cX8_hasLook 1 = .ok (.ifCond .lt 15, 3) := dk_155 hN_cX8_hasLook rfl rfl rfl
theorem dX8_hasLook_16 : decode cX8_hasLook 16 = .ok (.iconst 0, 1) := dk_3 hN_cX8_hasLook rfl rfl
theorem dX8_hasLook_17 : decode cX8_hasLook 17 = .ok (.ireturn, 1) := dk_172 hN_cX8_hasLook rfl rfl
theorem dX8_hasLook_4 : decode cX8_hasLook 4 = .ok (.iload_n 1, 1) := dk_27 hN_cX8_hasLook rfl rfl
theorem dX8_hasLook_5 : decode cX8_hasLook 5 = .ok (.aload_n 0, 1) := dk_42 hN_cX8_hasLook rfl rfl
theorem dX8_hasLook_6 : decode cX8_hasLook 6 = .ok (.getfield 34, 3) := dk_180 hN_cX8_hasLook rfl rfl rfl
theorem dX8_hasLook_9 : decode cX8_hasLook 9 = .ok (.if_icmp .ge 7, 3) := dk_162 hN_cX8_hasLook rfl rfl rfl
theorem dX8_hasLook_12 : decode cX8_hasLook 12 = .ok (.iconst 1, 1) := dk_4 hN_cX8_hasLook rfl rfl
theorem dX8_hasLook_13 : decode cX8_hasLook 13 = .ok (.goto 4, 3) := dk_167 hN_cX8_hasLook rfl rfl rfl
theorem dX8_hasSet_0 : decode cX8_hasSet 0 = .ok (.iload_n 1, 1) := dk_27 hN_cX8_hasSet rfl rfl
theorem dX8_hasSet_1 : decode cX8_hasSet 1 = .ok (.ifCond .lt 15, 3) := dk_155 hN_cX8_hasSet rfl rfl rfl
theorem dX8_hasSet_16 : decode cX8_hasSet 16 = .ok (.iconst 0, 1) := dk_3 hN_cX8_hasSet rfl rfl
theorem dX8_hasSet_17 : decode cX8_hasSet 17 = .ok (.ireturn, 1) := dk_172 hN_cX8_hasSet rfl rfl
theorem dX8_hasSet_4 : decode cX8_hasSet 4 = .ok (.iload_n 1, 1) := dk_27 hN_cX8_hasSet rfl rfl
theorem dX8_hasSet_5 : decode cX8_hasSet 5 = .ok (.aload_n 0, 1) := dk_42 hN_cX8_hasSet rfl rfl
theorem dX8_hasSet_6 : decode cX8_hasSet 6 = .ok (.getfield 38, 3) := dk_180 hN_cX8_hasSet rfl rfl rfl
theorem dX8_hasSet_9 : decode cX8_hasSet 9 = .ok (.if_icmp .ge 7, 3) := dk_162 hN_cX8_hasSet rfl rfl rfl
theorem dX8_hasSet_12 : decode cX8_hasSet 12 = .ok (.iconst 1, 1) := dk_4 hN_cX8_hasSet rfl rfl
theorem dX8_hasSet_13 : decode cX8_hasSet 13 = .ok (.goto 4, 3) := dk_167 hN_cX8_hasSet rfl rfl rfl
theorem dX8_hasPair_0 : decode cX8_hasPair 0 = .ok (.aload_n 0, 1) := dk_42 hN_cX8_hasPair rfl rfl
theorem dX8_hasPair_1 : decode cX8_hasPair 1 = .ok (.iload_n 1, 1) := dk_27 hN_cX8_hasPair rfl rfl
theorem dX8_hasPair_2 : decode cX8_hasPair 2 = .ok (.invokevirtual 56, 3) := dk_182 hN_cX8_hasPair rfl rfl rfl
theorem dX8_hasPair_5 : decode cX8_hasPair 5 = .ok (.ifCond .eq 16, 3) := dk_153 hN_cX8_hasPair rfl rfl rfl
theorem dX8_hasPair_21 : decode cX8_hasPair 21 = .ok (.iconst 0, 1) := dk_3 hN_cX8_hasPair rfl rfl
theorem dX8_hasPair_22 : decode cX8_hasPair 22 = .ok (.ireturn, 1) := dk_172 hN_cX8_hasPair rfl rfl
theorem dX8_hasPair_8 : decode cX8_hasPair 8 = .ok (.aload_n 0, 1) := dk_42 hN_cX8_hasPair rfl rfl
theorem dX8_hasPair_9 : decode cX8_hasPair 9 = .ok (.getfield 15, 3) := dk_180 hN_cX8_hasPair rfl rfl rfl
theorem dX8_hasPair_12 : decode cX8_hasPair 12 = .ok (.iload_n 1, 1) := dk_27 hN_cX8_hasPair rfl rfl
theorem dX8_hasPair_13 : decode cX8_hasPair 13 = .ok (.iaload, 1) := dk_46 hN_cX8_hasPair rfl rfl
theorem dX8_hasPair_14 : decode cX8_hasPair 14 = .ok (.ifCond .lt 7, 3) := dk_155 hN_cX8_hasPair rfl rfl rfl
theorem dX8_hasPair_17 : decode cX8_hasPair 17 = .ok (.iconst 1, 1) := dk_4 hN_cX8_hasPair rfl rfl
theorem dX8_hasPair_18 : decode cX8_hasPair 18 = .ok (.goto 4, 3) := dk_167 hN_cX8_hasPair rfl rfl rfl
theorem dX8_hasOutcome_0 : decode cX8_hasOutcome 0 = .ok (.aload_n 0, 1) := dk_42 hN_cX8_hasOutcome rfl rfl
theorem dX8_hasOutcome_1 : decode cX8_hasOutcome 1 = .ok (.iload_n 1, 1) := dk_27 hN_cX8_hasOutcome rfl rfl
theorem dX8_hasOutcome_2 : decode cX8_hasOutcome 2 = .ok (.invokevirtual 56, 3) := dk_182 hN_cX8_hasOutcome rfl rfl rfl
theorem dX8_hasOutcome_5 : decode cX8_hasOutcome 5 = .ok (.ifCond .eq 20, 3) := dk_153 hN_cX8_hasOutcome rfl rfl rfl
theorem dX8_hasOutcome_25 : decode cX8_hasOutcome 25 = .ok (.iconst 0, 1) := dk_3 hN_cX8_hasOutcome rfl rfl
theorem dX8_hasOutcome_26 : decode cX8_hasOutcome 26 = .ok (.ireturn, 1) := dk_172 hN_cX8_hasOutcome rfl rfl
theorem dX8_hasOutcome_8 : decode cX8_hasOutcome 8 = .ok (.iload_n 2, 1) := dk_28 hN_cX8_hasOutcome rfl rfl
theorem dX8_hasOutcome_9 : decode cX8_hasOutcome 9 = .ok (.ifCond .lt 16, 3) := dk_155 hN_cX8_hasOutcome rfl rfl rfl
theorem dX8_hasOutcome_12 : decode cX8_hasOutcome 12 = .ok (.iload_n 2, 1) := dk_28 hN_cX8_hasOutcome rfl rfl
theorem dX8_hasOutcome_13 : decode cX8_hasOutcome 13 = .ok (.aload_n 0, 1) := dk_42 hN_cX8_hasOutcome rfl rfl
theorem dX8_hasOutcome_14 : decode cX8_hasOutcome 14 = .ok (.iload_n 1, 1) := dk_27 hN_cX8_hasOutcome rfl rfl
theorem dX8_hasOutcome_15 : decode cX8_hasOutcome 15 = .ok (.invokevirtual 60, 3) := dk_182 hN_cX8_hasOutcome rfl rfl rfl
theorem dX8_hasOutcome_18 : decode cX8_hasOutcome 18 = .ok (.if_icmp .ge 7, 3) := dk_162 hN_cX8_hasOutcome rfl rfl rfl
theorem dX8_hasOutcome_21 : decode cX8_hasOutcome 21 = .ok (.iconst 1, 1) := dk_4 hN_cX8_hasOutcome rfl rfl
theorem dX8_hasOutcome_22 : decode cX8_hasOutcome 22 = .ok (.goto 4, 3) := dk_167 hN_cX8_hasOutcome rfl rfl rfl
theorem dX8_outcomes_0 : decode cX8_outcomes 0 = .ok (.aload_n 0, 1) := dk_42 hN_cX8_outcomes rfl rfl
theorem dX8_outcomes_1 : decode cX8_outcomes 1 = .ok (.getfield 15, 3) := dk_180 hN_cX8_outcomes rfl rfl rfl
theorem dX8_outcomes_4 : decode cX8_outcomes 4 = .ok (.iload_n 1, 1) := dk_27 hN_cX8_outcomes rfl rfl
theorem dX8_outcomes_5 : decode cX8_outcomes 5 = .ok (.iaload, 1) := dk_46 hN_cX8_outcomes rfl rfl
theorem dX8_outcomes_6 : decode cX8_outcomes 6 = .ok (.ifCond .ge 7, 3) := dk_156 hN_cX8_outcomes rfl rfl rfl
theorem dX8_outcomes_13 : decode cX8_outcomes 13 = .ok (.iconst 4, 1) := dk_7 hN_cX8_outcomes rfl rfl
theorem dX8_outcomes_14 : decode cX8_outcomes 14 = .ok (.ireturn, 1) := dk_172 hN_cX8_outcomes rfl rfl
theorem dX8_outcomes_9 : decode cX8_outcomes 9 = .ok (.iconst 2, 1) := dk_5 hN_cX8_outcomes rfl rfl
theorem dX8_outcomes_10 : decode cX8_outcomes 10 = .ok (.goto 4, 3) := dk_167 hN_cX8_outcomes rfl rfl rfl
theorem dX8_hiddenAnswers_0 : decode cX8_hiddenAnswers 0 = .ok (.iconst 1, 1) := dk_4 hN_cX8_hiddenAnswers rfl rfl
theorem dX8_hiddenAnswers_1 : decode cX8_hiddenAnswers 1 = .ok (.aload_n 0, 1) := dk_42 hN_cX8_hiddenAnswers rfl rfl
theorem dX8_hiddenAnswers_2 : decode cX8_hiddenAnswers 2 = .ok (.getfield 34, 3) := dk_180 hN_cX8_hiddenAnswers rfl rfl rfl
theorem dX8_hiddenAnswers_5 : decode cX8_hiddenAnswers 5 = .ok (.ishl, 1) := dk_120 hN_cX8_hiddenAnswers rfl rfl
theorem dX8_hiddenAnswers_6 : decode cX8_hiddenAnswers 6 = .ok (.ireturn, 1) := dk_172 hN_cX8_hiddenAnswers rfl rfl
theorem dX8_cellOf_0 : decode cX8_cellOf 0 = .ok (.iload_n 2, 1) := dk_28 hN_cX8_cellOf rfl rfl
theorem dX8_cellOf_1 : decode cX8_cellOf 1 = .ok (.aload_n 0, 1) := dk_42 hN_cX8_cellOf rfl rfl
theorem dX8_cellOf_2 : decode cX8_cellOf 2 = .ok (.getfield 9, 3) := dk_180 hN_cX8_cellOf rfl rfl rfl
theorem dX8_cellOf_5 : decode cX8_cellOf 5 = .ok (.iload_n 1, 1) := dk_27 hN_cX8_cellOf rfl rfl
theorem dX8_cellOf_6 : decode cX8_cellOf 6 = .ok (.iaload, 1) := dk_46 hN_cX8_cellOf rfl rfl
theorem dX8_cellOf_7 : decode cX8_cellOf 7 = .ok (.ishr, 1) := dk_122 hN_cX8_cellOf rfl rfl
theorem dX8_cellOf_8 : decode cX8_cellOf 8 = .ok (.iconst 1, 1) := dk_4 hN_cX8_cellOf rfl rfl
theorem dX8_cellOf_9 : decode cX8_cellOf 9 = .ok (.iand, 1) := dk_126 hN_cX8_cellOf rfl rfl
theorem dX8_cellOf_10 : decode cX8_cellOf 10 = .ok (.istore_n 3, 1) := dk_62 hN_cX8_cellOf rfl rfl
theorem dX8_cellOf_11 : decode cX8_cellOf 11 = .ok (.aload_n 0, 1) := dk_42 hN_cX8_cellOf rfl rfl
theorem dX8_cellOf_12 : decode cX8_cellOf 12 = .ok (.getfield 15, 3) := dk_180 hN_cX8_cellOf rfl rfl rfl
theorem dX8_cellOf_15 : decode cX8_cellOf 15 = .ok (.iload_n 1, 1) := dk_27 hN_cX8_cellOf rfl rfl
theorem dX8_cellOf_16 : decode cX8_cellOf 16 = .ok (.iaload, 1) := dk_46 hN_cX8_cellOf rfl rfl
theorem dX8_cellOf_17 : decode cX8_cellOf 17 = .ok (.ifCond .ge 9, 3) := dk_156 hN_cX8_cellOf rfl rfl rfl
theorem dX8_cellOf_26 : decode cX8_cellOf 26 = .ok (.iconst 4, 1) := dk_7 hN_cX8_cellOf rfl rfl
theorem dX8_cellOf_27 : decode cX8_cellOf 27 = .ok (.iload_n 1, 1) := dk_27 hN_cX8_cellOf rfl rfl
theorem dX8_cellOf_28 : decode cX8_cellOf 28 = .ok (.imul, 1) := dk_104 hN_cX8_cellOf rfl rfl
theorem dX8_cellOf_29 : decode cX8_cellOf 29 = .ok (.iconst 2, 1) := dk_5 hN_cX8_cellOf rfl rfl
theorem dX8_cellOf_30 : decode cX8_cellOf 30 = .ok (.iload_n 3, 1) := dk_29 hN_cX8_cellOf rfl rfl
theorem dX8_cellOf_31 : decode cX8_cellOf 31 = .ok (.imul, 1) := dk_104 hN_cX8_cellOf rfl rfl
theorem dX8_cellOf_32 : decode cX8_cellOf 32 = .ok (.iadd, 1) := dk_96 hN_cX8_cellOf rfl rfl
theorem dX8_cellOf_33 : decode cX8_cellOf 33 = .ok (.iload_n 2, 1) := dk_28 hN_cX8_cellOf rfl rfl
theorem dX8_cellOf_34 : decode cX8_cellOf 34 = .ok (.aload_n 0, 1) := dk_42 hN_cX8_cellOf rfl rfl
theorem dX8_cellOf_35 : decode cX8_cellOf 35 = .ok (.getfield 15, 3) := dk_180 hN_cX8_cellOf rfl rfl rfl
theorem dX8_cellOf_38 : decode cX8_cellOf 38 = .ok (.iload_n 1, 1) := dk_27 hN_cX8_cellOf rfl rfl
theorem dX8_cellOf_39 : decode cX8_cellOf 39 = .ok (.iaload, 1) := dk_46 hN_cX8_cellOf rfl rfl
theorem dX8_cellOf_40 : decode cX8_cellOf 40 = .ok (.ishr, 1) := dk_122 hN_cX8_cellOf rfl rfl
theorem dX8_cellOf_41 : decode cX8_cellOf 41 = .ok (.iconst 1, 1) := dk_4 hN_cX8_cellOf rfl rfl
theorem dX8_cellOf_42 : decode cX8_cellOf 42 = .ok (.iand, 1) := dk_126 hN_cX8_cellOf rfl rfl
theorem dX8_cellOf_43 : decode cX8_cellOf 43 = .ok (.iadd, 1) := dk_96 hN_cX8_cellOf rfl rfl
theorem dX8_cellOf_44 : decode cX8_cellOf 44 = .ok (.ireturn, 1) := dk_172 hN_cX8_cellOf rfl rfl
theorem dX8_cellOf_20 : decode cX8_cellOf 20 = .ok (.iconst 4, 1) := dk_7 hN_cX8_cellOf rfl rfl
theorem dX8_cellOf_21 : decode cX8_cellOf 21 = .ok (.iload_n 1, 1) := dk_27 hN_cX8_cellOf rfl rfl
theorem dX8_cellOf_22 : decode cX8_cellOf 22 = .ok (.imul, 1) := dk_104 hN_cX8_cellOf rfl rfl
theorem dX8_cellOf_23 : decode cX8_cellOf 23 = .ok (.iload_n 3, 1) := dk_29 hN_cX8_cellOf rfl rfl
theorem dX8_cellOf_24 : decode cX8_cellOf 24 = .ok (.iadd, 1) := dk_96 hN_cX8_cellOf rfl rfl
theorem dX8_cellOf_25 : decode cX8_cellOf 25 = .ok (.ireturn, 1) := dk_172 hN_cX8_cellOf rfl rfl
theorem dX8_missed_0 : decode cX8_missed 0 = .ok (.iconst 0, 1) := dk_3 hN_cX8_missed rfl rfl
theorem dX8_missed_1 : decode cX8_missed 1 = .ok (.istore_n 2, 1) := dk_61 hN_cX8_missed rfl rfl
theorem dX8_missed_2 : decode cX8_missed 2 = .ok (.iconst 0, 1) := dk_3 hN_cX8_missed rfl rfl
theorem dX8_missed_3 : decode cX8_missed 3 = .ok (.istore_n 3, 1) := dk_62 hN_cX8_missed rfl rfl
theorem dX8_missed_4 : decode cX8_missed 4 = .ok (.iload_n 3, 1) := dk_29 hN_cX8_missed rfl rfl
theorem dX8_missed_5 : decode cX8_missed 5 = .ok (.aload_n 0, 1) := dk_42 hN_cX8_missed rfl rfl
theorem dX8_missed_6 : decode cX8_missed 6 = .ok (.getfield 38, 3) := dk_180 hN_cX8_missed rfl rfl rfl
theorem dX8_missed_9 : decode cX8_missed 9 = .ok (.if_icmp .ge 29, 3) := dk_162 hN_cX8_missed rfl rfl rfl
theorem dX8_missed_38 : decode cX8_missed 38 = .ok (.iload_n 2, 1) := dk_28 hN_cX8_missed rfl rfl
theorem dX8_missed_39 : decode cX8_missed 39 = .ok (.ireturn, 1) := dk_172 hN_cX8_missed rfl rfl
theorem dX8_missed_12 : decode cX8_missed 12 = .ok (.aload_n 0, 1) := dk_42 hN_cX8_missed rfl rfl
theorem dX8_missed_13 : decode cX8_missed 13 = .ok (.getfield 18, 3) := dk_180 hN_cX8_missed rfl rfl rfl
theorem dX8_missed_16 : decode cX8_missed 16 = .ok (.aload_n 0, 1) := dk_42 hN_cX8_missed rfl rfl
theorem dX8_missed_17 : decode cX8_missed 17 = .ok (.iload_n 3, 1) := dk_29 hN_cX8_missed rfl rfl
theorem dX8_missed_18 : decode cX8_missed 18 = .ok (.iload_n 1, 1) := dk_27 hN_cX8_missed rfl rfl
theorem dX8_missed_19 : decode cX8_missed 19 = .ok (.invokevirtual 64, 3) := dk_182 hN_cX8_missed rfl rfl rfl
theorem dX8_missed_22 : decode cX8_missed 22 = .ok (.iaload, 1) := dk_46 hN_cX8_missed rfl rfl
theorem dX8_missed_23 : decode cX8_missed 23 = .ok (.ifCond .ne 9, 3) := dk_154 hN_cX8_missed rfl rfl rfl
theorem dX8_missed_32 : decode cX8_missed 32 = .ok (.iinc 3 1, 3) := dk_132 hN_cX8_missed rfl rfl rfl rfl
theorem dX8_missed_35 : decode cX8_missed 35 = .ok (.goto (-31), 3) := dk_167 hN_cX8_missed rfl rfl rfl
theorem dX8_missed_26 : decode cX8_missed 26 = .ok (.iload_n 2, 1) := dk_28 hN_cX8_missed rfl rfl
theorem dX8_missed_27 : decode cX8_missed 27 = .ok (.iconst 1, 1) := dk_4 hN_cX8_missed rfl rfl
theorem dX8_missed_28 : decode cX8_missed 28 = .ok (.iload_n 3, 1) := dk_29 hN_cX8_missed rfl rfl
theorem dX8_missed_29 : decode cX8_missed 29 = .ok (.ishl, 1) := dk_120 hN_cX8_missed rfl rfl
theorem dX8_missed_30 : decode cX8_missed 30 = .ok (.ior, 1) := dk_128 hN_cX8_missed rfl rfl
theorem dX8_missed_31 : decode cX8_missed 31 = .ok (.istore_n 2, 1) := dk_61 hN_cX8_missed rfl rfl
theorem dX8_fitting_0 : decode cX8_fitting 0 = .ok (.iconst 0, 1) := dk_3 hN_cX8_fitting rfl rfl
theorem dX8_fitting_1 : decode cX8_fitting 1 = .ok (.istore_n 1, 1) := dk_60 hN_cX8_fitting rfl rfl
theorem dX8_fitting_2 : decode cX8_fitting 2 = .ok (.iconst 0, 1) := dk_3 hN_cX8_fitting rfl rfl
theorem dX8_fitting_3 : decode cX8_fitting 3 = .ok (.istore_n 2, 1) := dk_61 hN_cX8_fitting rfl rfl
theorem dX8_fitting_4 : decode cX8_fitting 4 = .ok (.iload_n 2, 1) := dk_28 hN_cX8_fitting rfl rfl
theorem dX8_fitting_5 : decode cX8_fitting 5 = .ok (.aload_n 0, 1) := dk_42 hN_cX8_fitting rfl rfl
theorem dX8_fitting_6 : decode cX8_fitting 6 = .ok (.invokevirtual 68, 3) := dk_182 hN_cX8_fitting rfl rfl rfl
theorem dX8_fitting_9 : decode cX8_fitting 9 = .ok (.if_icmp .ge 20, 3) := dk_162 hN_cX8_fitting rfl rfl rfl
theorem dX8_fitting_29 : decode cX8_fitting 29 = .ok (.iload_n 1, 1) := dk_27 hN_cX8_fitting rfl rfl
theorem dX8_fitting_30 : decode cX8_fitting 30 = .ok (.ireturn, 1) := dk_172 hN_cX8_fitting rfl rfl
theorem dX8_fitting_12 : decode cX8_fitting 12 = .ok (.aload_n 0, 1) := dk_42 hN_cX8_fitting rfl rfl
theorem dX8_fitting_13 : decode cX8_fitting 13 = .ok (.iload_n 2, 1) := dk_28 hN_cX8_fitting rfl rfl
theorem dX8_fitting_14 : decode cX8_fitting 14 = .ok (.invokevirtual 72, 3) := dk_182 hN_cX8_fitting rfl rfl rfl
theorem dX8_fitting_17 : decode cX8_fitting 17 = .ok (.ifCond .ne 6, 3) := dk_154 hN_cX8_fitting rfl rfl rfl
theorem dX8_fitting_23 : decode cX8_fitting 23 = .ok (.iinc 2 1, 3) := dk_132 hN_cX8_fitting rfl rfl rfl rfl
theorem dX8_fitting_26 : decode cX8_fitting 26 = .ok (.goto (-22), 3) := dk_167 hN_cX8_fitting rfl rfl rfl
theorem dX8_fitting_20 : decode cX8_fitting 20 = .ok (.iinc 1 1, 3) := dk_132 hN_cX8_fitting rfl rfl rfl rfl
theorem dX8_fittingAt_0 : decode cX8_fittingAt 0 = .ok (.iconst 0, 1) := dk_3 hN_cX8_fittingAt rfl rfl
theorem dX8_fittingAt_1 : decode cX8_fittingAt 1 = .ok (.istore_n 2, 1) := dk_61 hN_cX8_fittingAt rfl rfl
theorem dX8_fittingAt_2 : decode cX8_fittingAt 2 = .ok (.iconst 0, 1) := dk_3 hN_cX8_fittingAt rfl rfl
theorem dX8_fittingAt_3 : decode cX8_fittingAt 3 = .ok (.istore_n 3, 1) := dk_62 hN_cX8_fittingAt rfl rfl
theorem dX8_fittingAt_4 : decode cX8_fittingAt 4 = .ok (.iload_n 3, 1) := dk_29 hN_cX8_fittingAt rfl rfl
theorem dX8_fittingAt_5 : decode cX8_fittingAt 5 = .ok (.aload_n 0, 1) := dk_42 hN_cX8_fittingAt rfl rfl
theorem dX8_fittingAt_6 : decode cX8_fittingAt 6 = .ok (.invokevirtual 68, 3) := dk_182 hN_cX8_fittingAt rfl rfl rfl
theorem dX8_fittingAt_9 : decode cX8_fittingAt 9 = .ok (.if_icmp .ge 27, 3) := dk_162 hN_cX8_fittingAt rfl rfl rfl
theorem dX8_fittingAt_36 : decode cX8_fittingAt 36 = .ok (.iconst (-1), 1) := dk_2 hN_cX8_fittingAt rfl rfl
theorem dX8_fittingAt_37 : decode cX8_fittingAt 37 = .ok (.ireturn, 1) := dk_172 hN_cX8_fittingAt rfl rfl
theorem dX8_fittingAt_12 : decode cX8_fittingAt 12 = .ok (.aload_n 0, 1) := dk_42 hN_cX8_fittingAt rfl rfl
theorem dX8_fittingAt_13 : decode cX8_fittingAt 13 = .ok (.iload_n 3, 1) := dk_29 hN_cX8_fittingAt rfl rfl
theorem dX8_fittingAt_14 : decode cX8_fittingAt 14 = .ok (.invokevirtual 72, 3) := dk_182 hN_cX8_fittingAt rfl rfl rfl
theorem dX8_fittingAt_17 : decode cX8_fittingAt 17 = .ok (.ifCond .ne 13, 3) := dk_154 hN_cX8_fittingAt rfl rfl rfl
theorem dX8_fittingAt_30 : decode cX8_fittingAt 30 = .ok (.iinc 3 1, 3) := dk_132 hN_cX8_fittingAt rfl rfl rfl rfl
theorem dX8_fittingAt_33 : decode cX8_fittingAt 33 = .ok (.goto (-29), 3) := dk_167 hN_cX8_fittingAt rfl rfl rfl
theorem dX8_fittingAt_20 : decode cX8_fittingAt 20 = .ok (.iload_n 2, 1) := dk_28 hN_cX8_fittingAt rfl rfl
theorem dX8_fittingAt_21 : decode cX8_fittingAt 21 = .ok (.iload_n 1, 1) := dk_27 hN_cX8_fittingAt rfl rfl
theorem dX8_fittingAt_22 : decode cX8_fittingAt 22 = .ok (.if_icmp .ne 5, 3) := dk_160 hN_cX8_fittingAt rfl rfl rfl
theorem dX8_fittingAt_27 : decode cX8_fittingAt 27 = .ok (.iinc 2 1, 3) := dk_132 hN_cX8_fittingAt rfl rfl rfl rfl
theorem dX8_fittingAt_25 : decode cX8_fittingAt 25 = .ok (.iload_n 3, 1) := dk_29 hN_cX8_fittingAt rfl rfl
theorem dX8_fittingAt_26 : decode cX8_fittingAt 26 = .ok (.ireturn, 1) := dk_172 hN_cX8_fittingAt rfl rfl
theorem dX8_possible_0 : decode cX8_possible 0 = .ok (.iconst 0, 1) := dk_3 hN_cX8_possible rfl rfl
theorem dX8_possible_1 : decode cX8_possible 1 = .ok (.istore_n 1, 1) := dk_60 hN_cX8_possible rfl rfl
theorem dX8_possible_2 : decode cX8_possible 2 = .ok (.iconst 0, 1) := dk_3 hN_cX8_possible rfl rfl
theorem dX8_possible_3 : decode cX8_possible 3 = .ok (.istore_n 2, 1) := dk_61 hN_cX8_possible rfl rfl
theorem dX8_possible_4 : decode cX8_possible 4 = .ok (.iload_n 2, 1) := dk_28 hN_cX8_possible rfl rfl
theorem dX8_possible_5 : decode cX8_possible 5 = .ok (.iconst 4, 1) := dk_7 hN_cX8_possible rfl rfl
theorem dX8_possible_6 : decode cX8_possible 6 = .ok (.aload_n 0, 1) := dk_42 hN_cX8_possible rfl rfl
theorem dX8_possible_7 : decode cX8_possible 7 = .ok (.getfield 38, 3) := dk_180 hN_cX8_possible rfl rfl rfl
theorem dX8_possible_10 : decode cX8_possible 10 = .ok (.imul, 1) := dk_104 hN_cX8_possible rfl rfl
theorem dX8_possible_11 : decode cX8_possible 11 = .ok (.if_icmp .ge 24, 3) := dk_162 hN_cX8_possible rfl rfl rfl
theorem dX8_possible_35 : decode cX8_possible 35 = .ok (.iload_n 1, 1) := dk_27 hN_cX8_possible rfl rfl
theorem dX8_possible_36 : decode cX8_possible 36 = .ok (.ireturn, 1) := dk_172 hN_cX8_possible rfl rfl
theorem dX8_possible_14 : decode cX8_possible 14 = .ok (.aload_n 0, 1) := dk_42 hN_cX8_possible rfl rfl
theorem dX8_possible_15 : decode cX8_possible 15 = .ok (.getfield 18, 3) := dk_180 hN_cX8_possible rfl rfl rfl
theorem dX8_possible_18 : decode cX8_possible 18 = .ok (.iload_n 2, 1) := dk_28 hN_cX8_possible rfl rfl
theorem dX8_possible_19 : decode cX8_possible 19 = .ok (.iaload, 1) := dk_46 hN_cX8_possible rfl rfl
theorem dX8_possible_20 : decode cX8_possible 20 = .ok (.ifCond .le 9, 3) := dk_158 hN_cX8_possible rfl rfl rfl
theorem dX8_possible_29 : decode cX8_possible 29 = .ok (.iinc 2 1, 3) := dk_132 hN_cX8_possible rfl rfl rfl rfl
theorem dX8_possible_32 : decode cX8_possible 32 = .ok (.goto (-28), 3) := dk_167 hN_cX8_possible rfl rfl rfl
theorem dX8_possible_23 : decode cX8_possible 23 = .ok (.iload_n 1, 1) := dk_27 hN_cX8_possible rfl rfl
theorem dX8_possible_24 : decode cX8_possible 24 = .ok (.iconst 1, 1) := dk_4 hN_cX8_possible rfl rfl
theorem dX8_possible_25 : decode cX8_possible 25 = .ok (.iload_n 2, 1) := dk_28 hN_cX8_possible rfl rfl
theorem dX8_possible_26 : decode cX8_possible 26 = .ok (.ishl, 1) := dk_120 hN_cX8_possible rfl rfl
theorem dX8_possible_27 : decode cX8_possible 27 = .ok (.ior, 1) := dk_128 hN_cX8_possible rfl rfl
theorem dX8_possible_28 : decode cX8_possible 28 = .ok (.istore_n 1, 1) := dk_60 hN_cX8_possible rfl rfl
theorem dX8_extending_0 : decode cX8_extending 0 = .ok (.iconst 0, 1) := dk_3 hN_cX8_extending rfl rfl
theorem dX8_extending_1 : decode cX8_extending 1 = .ok (.istore_n 1, 1) := dk_60 hN_cX8_extending rfl rfl
theorem dX8_extending_2 : decode cX8_extending 2 = .ok (.iconst 0, 1) := dk_3 hN_cX8_extending rfl rfl
theorem dX8_extending_3 : decode cX8_extending 3 = .ok (.istore_n 2, 1) := dk_61 hN_cX8_extending rfl rfl
theorem dX8_extending_4 : decode cX8_extending 4 = .ok (.iload_n 2, 1) := dk_28 hN_cX8_extending rfl rfl
theorem dX8_extending_5 : decode cX8_extending 5 = .ok (.aload_n 0, 1) := dk_42 hN_cX8_extending rfl rfl
theorem dX8_extending_6 : decode cX8_extending 6 = .ok (.invokevirtual 68, 3) := dk_182 hN_cX8_extending rfl rfl rfl
theorem dX8_extending_9 : decode cX8_extending 9 = .ok (.if_icmp .ge 56, 3) := dk_162 hN_cX8_extending rfl rfl rfl
theorem dX8_extending_65 : decode cX8_extending 65 = .ok (.iload_n 1, 1) := dk_27 hN_cX8_extending rfl rfl
theorem dX8_extending_66 : decode cX8_extending 66 = .ok (.ireturn, 1) := dk_172 hN_cX8_extending rfl rfl
theorem dX8_extending_12 : decode cX8_extending 12 = .ok (.aload_n 0, 1) := dk_42 hN_cX8_extending rfl rfl
theorem dX8_extending_13 : decode cX8_extending 13 = .ok (.iload_n 2, 1) := dk_28 hN_cX8_extending rfl rfl
theorem dX8_extending_14 : decode cX8_extending 14 = .ok (.invokevirtual 72, 3) := dk_182 hN_cX8_extending rfl rfl rfl
theorem dX8_extending_17 : decode cX8_extending 17 = .ok (.istore_n 3, 1) := dk_62 hN_cX8_extending rfl rfl
theorem dX8_extending_18 : decode cX8_extending 18 = .ok (.iconst 0, 1) := dk_3 hN_cX8_extending rfl rfl
theorem dX8_extending_19 : decode cX8_extending 19 = .ok (.istore 4, 2) := dk_54 hN_cX8_extending rfl rfl rfl
theorem dX8_extending_21 : decode cX8_extending 21 = .ok (.iload 4, 2) := dk_21 hN_cX8_extending rfl rfl rfl
theorem dX8_extending_23 : decode cX8_extending 23 = .ok (.aload_n 0, 1) := dk_42 hN_cX8_extending rfl rfl
theorem dX8_extending_24 : decode cX8_extending 24 = .ok (.getfield 38, 3) := dk_180 hN_cX8_extending rfl rfl rfl
theorem dX8_extending_27 : decode cX8_extending 27 = .ok (.if_icmp .ge 32, 3) := dk_162 hN_cX8_extending rfl rfl rfl
theorem dX8_extending_59 : decode cX8_extending 59 = .ok (.iinc 2 1, 3) := dk_132 hN_cX8_extending rfl rfl rfl rfl
theorem dX8_extending_62 : decode cX8_extending 62 = .ok (.goto (-58), 3) := dk_167 hN_cX8_extending rfl rfl rfl
theorem dX8_extending_30 : decode cX8_extending 30 = .ok (.iload_n 3, 1) := dk_29 hN_cX8_extending rfl rfl
theorem dX8_extending_31 : decode cX8_extending 31 = .ok (.iconst 1, 1) := dk_4 hN_cX8_extending rfl rfl
theorem dX8_extending_32 : decode cX8_extending 32 = .ok (.iload 4, 2) := dk_21 hN_cX8_extending rfl rfl rfl
theorem dX8_extending_34 : decode cX8_extending 34 = .ok (.ishl, 1) := dk_120 hN_cX8_extending rfl rfl
theorem dX8_extending_35 : decode cX8_extending 35 = .ok (.iconst (-1), 1) := dk_2 hN_cX8_extending rfl rfl
theorem dX8_extending_36 : decode cX8_extending 36 = .ok (.ixor, 1) := dk_130 hN_cX8_extending rfl rfl
theorem dX8_extending_37 : decode cX8_extending 37 = .ok (.iand, 1) := dk_126 hN_cX8_extending rfl rfl
theorem dX8_extending_38 : decode cX8_extending 38 = .ok (.ifCond .ne 15, 3) := dk_154 hN_cX8_extending rfl rfl rfl
theorem dX8_extending_53 : decode cX8_extending 53 = .ok (.iinc 4 1, 3) := dk_132 hN_cX8_extending rfl rfl rfl rfl
theorem dX8_extending_56 : decode cX8_extending 56 = .ok (.goto (-35), 3) := dk_167 hN_cX8_extending rfl rfl rfl
theorem dX8_extending_41 : decode cX8_extending 41 = .ok (.iload_n 1, 1) := dk_27 hN_cX8_extending rfl rfl
theorem dX8_extending_42 : decode cX8_extending 42 = .ok (.iconst 1, 1) := dk_4 hN_cX8_extending rfl rfl
theorem dX8_extending_43 : decode cX8_extending 43 = .ok (.aload_n 0, 1) := dk_42 hN_cX8_extending rfl rfl
theorem dX8_extending_44 : decode cX8_extending 44 = .ok (.iload 4, 2) := dk_21 hN_cX8_extending rfl rfl rfl
theorem dX8_extending_46 : decode cX8_extending 46 = .ok (.iload_n 2, 1) := dk_28 hN_cX8_extending rfl rfl
theorem dX8_extending_47 : decode cX8_extending 47 = .ok (.invokevirtual 64, 3) := dk_182 hN_cX8_extending rfl rfl rfl
theorem dX8_extending_50 : decode cX8_extending 50 = .ok (.ishl, 1) := dk_120 hN_cX8_extending rfl rfl
theorem dX8_extending_51 : decode cX8_extending 51 = .ok (.ior, 1) := dk_128 hN_cX8_extending rfl rfl
theorem dX8_extending_52 : decode cX8_extending 52 = .ok (.istore_n 1, 1) := dk_60 hN_cX8_extending rfl rfl
theorem dX8_firstDisturbed_0 : decode cX8_firstDisturbed 0 = .ok (.iconst 0, 1) := dk_3 hN_cX8_firstDisturbed rfl rfl
theorem dX8_firstDisturbed_1 : decode cX8_firstDisturbed 1 = .ok (.istore_n 1, 1) := dk_60 hN_cX8_firstDisturbed rfl rfl
theorem dX8_firstDisturbed_2 : decode cX8_firstDisturbed 2 = .ok (.iload_n 1, 1) := dk_27 hN_cX8_firstDisturbed rfl rfl
theorem dX8_firstDisturbed_3 : decode cX8_firstDisturbed 3 = .ok (.aload_n 0, 1) := dk_42 hN_cX8_firstDisturbed rfl rfl
theorem dX8_firstDisturbed_4 : decode cX8_firstDisturbed 4 = .ok (.getfield 34, 3) := dk_180 hN_cX8_firstDisturbed rfl rfl rfl
theorem dX8_firstDisturbed_7 : decode cX8_firstDisturbed 7 = .ok (.if_icmp .ge 64, 3) := dk_162 hN_cX8_firstDisturbed rfl rfl rfl
theorem dX8_firstDisturbed_71 : decode cX8_firstDisturbed 71 = .ok (.bipush (-2), 2) := dk_16 hN_cX8_firstDisturbed rfl rfl rfl
theorem dX8_firstDisturbed_73 : decode cX8_firstDisturbed 73 = .ok (.ireturn, 1) := dk_172 hN_cX8_firstDisturbed rfl rfl
theorem dX8_firstDisturbed_10 : decode cX8_firstDisturbed 10 = .ok (.iconst (-1), 1) := dk_2 hN_cX8_firstDisturbed rfl rfl
theorem dX8_firstDisturbed_11 : decode cX8_firstDisturbed 11 = .ok (.istore_n 2, 1) := dk_61 hN_cX8_firstDisturbed rfl rfl
theorem dX8_firstDisturbed_12 : decode cX8_firstDisturbed 12 = .ok (.iconst 0, 1) := dk_3 hN_cX8_firstDisturbed rfl rfl
theorem dX8_firstDisturbed_13 : decode cX8_firstDisturbed 13 = .ok (.istore_n 3, 1) := dk_62 hN_cX8_firstDisturbed rfl rfl
theorem dX8_firstDisturbed_14 : decode cX8_firstDisturbed 14 = .ok (.iload_n 3, 1) := dk_29 hN_cX8_firstDisturbed rfl rfl
theorem dX8_firstDisturbed_15 : decode cX8_firstDisturbed 15 = .ok (.aload_n 0, 1) := dk_42 hN_cX8_firstDisturbed rfl rfl
theorem dX8_firstDisturbed_16 : decode cX8_firstDisturbed 16 = .ok (.getfield 38, 3) := dk_180 hN_cX8_firstDisturbed rfl rfl rfl
theorem dX8_firstDisturbed_19 : decode cX8_firstDisturbed 19 = .ok (.if_icmp .ge 46, 3) := dk_162 hN_cX8_firstDisturbed rfl rfl rfl
theorem dX8_firstDisturbed_65 : decode cX8_firstDisturbed 65 = .ok (.iinc 1 1, 3) := dk_132 hN_cX8_firstDisturbed rfl rfl rfl rfl
theorem dX8_firstDisturbed_68 : decode cX8_firstDisturbed 68 = .ok (.goto (-66), 3) := dk_167 hN_cX8_firstDisturbed rfl rfl rfl
theorem dX8_firstDisturbed_22 : decode cX8_firstDisturbed 22 = .ok (.aload_n 0, 1) := dk_42 hN_cX8_firstDisturbed rfl rfl
theorem dX8_firstDisturbed_23 : decode cX8_firstDisturbed 23 = .ok (.iload_n 3, 1) := dk_29 hN_cX8_firstDisturbed rfl rfl
theorem dX8_firstDisturbed_24 : decode cX8_firstDisturbed 24 = .ok (.iload_n 1, 1) := dk_27 hN_cX8_firstDisturbed rfl rfl
theorem dX8_firstDisturbed_25 : decode cX8_firstDisturbed 25 = .ok (.invokevirtual 75, 3) := dk_182 hN_cX8_firstDisturbed rfl rfl rfl
theorem dX8_firstDisturbed_28 : decode cX8_firstDisturbed 28 = .ok (.istore 4, 2) := dk_54 hN_cX8_firstDisturbed rfl rfl rfl
theorem dX8_firstDisturbed_30 : decode cX8_firstDisturbed 30 = .ok (.iload 4, 2) := dk_21 hN_cX8_firstDisturbed rfl rfl rfl
theorem dX8_firstDisturbed_32 : decode cX8_firstDisturbed 32 = .ok (.ifCond .lt 15, 3) := dk_155 hN_cX8_firstDisturbed rfl rfl rfl
theorem dX8_firstDisturbed_47 : decode cX8_firstDisturbed 47 = .ok (.iload 4, 2) := dk_21 hN_cX8_firstDisturbed rfl rfl rfl
theorem dX8_firstDisturbed_49 : decode cX8_firstDisturbed 49 = .ok (.ifCond .lt 8, 3) := dk_155 hN_cX8_firstDisturbed rfl rfl rfl
theorem dX8_firstDisturbed_57 : decode cX8_firstDisturbed 57 = .ok (.iload_n 2, 1) := dk_28 hN_cX8_firstDisturbed rfl rfl
theorem dX8_firstDisturbed_58 : decode cX8_firstDisturbed 58 = .ok (.istore_n 2, 1) := dk_61 hN_cX8_firstDisturbed rfl rfl
theorem dX8_firstDisturbed_59 : decode cX8_firstDisturbed 59 = .ok (.iinc 3 1, 3) := dk_132 hN_cX8_firstDisturbed rfl rfl rfl rfl
theorem dX8_firstDisturbed_62 : decode cX8_firstDisturbed 62 = .ok (.goto (-48), 3) := dk_167 hN_cX8_firstDisturbed rfl rfl rfl
theorem dX8_firstDisturbed_52 : decode cX8_firstDisturbed 52 = .ok (.iload 4, 2) := dk_21 hN_cX8_firstDisturbed rfl rfl rfl
theorem dX8_firstDisturbed_54 : decode cX8_firstDisturbed 54 = .ok (.goto 4, 3) := dk_167 hN_cX8_firstDisturbed rfl rfl rfl
theorem dX8_firstDisturbed_35 : decode cX8_firstDisturbed 35 = .ok (.iload_n 2, 1) := dk_28 hN_cX8_firstDisturbed rfl rfl
theorem dX8_firstDisturbed_36 : decode cX8_firstDisturbed 36 = .ok (.ifCond .lt 11, 3) := dk_155 hN_cX8_firstDisturbed rfl rfl rfl
theorem dX8_firstDisturbed_39 : decode cX8_firstDisturbed 39 = .ok (.iload 4, 2) := dk_21 hN_cX8_firstDisturbed rfl rfl rfl
theorem dX8_firstDisturbed_41 : decode cX8_firstDisturbed 41 = .ok (.iload_n 2, 1) := dk_28 hN_cX8_firstDisturbed rfl rfl
theorem dX8_firstDisturbed_42 : decode cX8_firstDisturbed 42 = .ok (.if_icmp .eq 5, 3) := dk_159 hN_cX8_firstDisturbed rfl rfl rfl
theorem dX8_firstDisturbed_45 : decode cX8_firstDisturbed 45 = .ok (.iload_n 1, 1) := dk_27 hN_cX8_firstDisturbed rfl rfl
theorem dX8_firstDisturbed_46 : decode cX8_firstDisturbed 46 = .ok (.ireturn, 1) := dk_172 hN_cX8_firstDisturbed rfl rfl
theorem dX8_onesOf_0 : decode cX8_onesOf 0 = .ok (.iconst 4, 1) := dk_7 hN_cX8_onesOf rfl rfl
theorem dX8_onesOf_1 : decode cX8_onesOf 1 = .ok (.iload_n 1, 1) := dk_27 hN_cX8_onesOf rfl rfl
theorem dX8_onesOf_2 : decode cX8_onesOf 2 = .ok (.imul, 1) := dk_104 hN_cX8_onesOf rfl rfl
theorem dX8_onesOf_3 : decode cX8_onesOf 3 = .ok (.istore_n 3, 1) := dk_62 hN_cX8_onesOf rfl rfl
theorem dX8_onesOf_4 : decode cX8_onesOf 4 = .ok (.aload_n 0, 1) := dk_42 hN_cX8_onesOf rfl rfl
theorem dX8_onesOf_5 : decode cX8_onesOf 5 = .ok (.getfield 15, 3) := dk_180 hN_cX8_onesOf rfl rfl rfl
theorem dX8_onesOf_8 : decode cX8_onesOf 8 = .ok (.iload_n 1, 1) := dk_27 hN_cX8_onesOf rfl rfl
theorem dX8_onesOf_9 : decode cX8_onesOf 9 = .ok (.iaload, 1) := dk_46 hN_cX8_onesOf rfl rfl
theorem dX8_onesOf_10 : decode cX8_onesOf 10 = .ok (.ifCond .ge 26, 3) := dk_156 hN_cX8_onesOf rfl rfl rfl
theorem dX8_onesOf_36 : decode cX8_onesOf 36 = .ok (.aload_n 0, 1) := dk_42 hN_cX8_onesOf rfl rfl
theorem dX8_onesOf_37 : decode cX8_onesOf 37 = .ok (.getfield 9, 3) := dk_180 hN_cX8_onesOf rfl rfl rfl
theorem dX8_onesOf_40 : decode cX8_onesOf 40 = .ok (.iload_n 1, 1) := dk_27 hN_cX8_onesOf rfl rfl
theorem dX8_onesOf_41 : decode cX8_onesOf 41 = .ok (.iaload, 1) := dk_46 hN_cX8_onesOf rfl rfl
theorem dX8_onesOf_42 : decode cX8_onesOf 42 = .ok (.iload_n 2, 1) := dk_28 hN_cX8_onesOf rfl rfl
theorem dX8_onesOf_43 : decode cX8_onesOf 43 = .ok (.if_icmp .ne 21, 3) := dk_160 hN_cX8_onesOf rfl rfl rfl
theorem dX8_onesOf_64 : decode cX8_onesOf 64 = .ok (.aload_n 0, 1) := dk_42 hN_cX8_onesOf rfl rfl
theorem dX8_onesOf_65 : decode cX8_onesOf 65 = .ok (.getfield 15, 3) := dk_180 hN_cX8_onesOf rfl rfl rfl
theorem dX8_onesOf_68 : decode cX8_onesOf 68 = .ok (.iload_n 1, 1) := dk_27 hN_cX8_onesOf rfl rfl
theorem dX8_onesOf_69 : decode cX8_onesOf 69 = .ok (.iaload, 1) := dk_46 hN_cX8_onesOf rfl rfl
theorem dX8_onesOf_70 : decode cX8_onesOf 70 = .ok (.iload_n 2, 1) := dk_28 hN_cX8_onesOf rfl rfl
theorem dX8_onesOf_71 : decode cX8_onesOf 71 = .ok (.if_icmp .ne 23, 3) := dk_160 hN_cX8_onesOf rfl rfl rfl
theorem dX8_onesOf_94 : decode cX8_onesOf 94 = .ok (.iconst (-1), 1) := dk_2 hN_cX8_onesOf rfl rfl
theorem dX8_onesOf_95 : decode cX8_onesOf 95 = .ok (.ireturn, 1) := dk_172 hN_cX8_onesOf rfl rfl
theorem dX8_onesOf_74 : decode cX8_onesOf 74 = .ok (.aload_n 0, 1) := dk_42 hN_cX8_onesOf rfl rfl
theorem dX8_onesOf_75 : decode cX8_onesOf 75 = .ok (.getfield 18, 3) := dk_180 hN_cX8_onesOf rfl rfl rfl
theorem dX8_onesOf_78 : decode cX8_onesOf 78 = .ok (.iload_n 3, 1) := dk_29 hN_cX8_onesOf rfl rfl
theorem dX8_onesOf_79 : decode cX8_onesOf 79 = .ok (.iconst 1, 1) := dk_4 hN_cX8_onesOf rfl rfl
theorem dX8_onesOf_80 : decode cX8_onesOf 80 = .ok (.iadd, 1) := dk_96 hN_cX8_onesOf rfl rfl
theorem dX8_onesOf_81 : decode cX8_onesOf 81 = .ok (.iaload, 1) := dk_46 hN_cX8_onesOf rfl rfl
theorem dX8_onesOf_82 : decode cX8_onesOf 82 = .ok (.aload_n 0, 1) := dk_42 hN_cX8_onesOf rfl rfl
theorem dX8_onesOf_83 : decode cX8_onesOf 83 = .ok (.getfield 18, 3) := dk_180 hN_cX8_onesOf rfl rfl rfl
theorem dX8_onesOf_86 : decode cX8_onesOf 86 = .ok (.iload_n 3, 1) := dk_29 hN_cX8_onesOf rfl rfl
theorem dX8_onesOf_87 : decode cX8_onesOf 87 = .ok (.iconst 3, 1) := dk_6 hN_cX8_onesOf rfl rfl
theorem dX8_onesOf_88 : decode cX8_onesOf 88 = .ok (.iadd, 1) := dk_96 hN_cX8_onesOf rfl rfl
theorem dX8_onesOf_89 : decode cX8_onesOf 89 = .ok (.iaload, 1) := dk_46 hN_cX8_onesOf rfl rfl
theorem dX8_onesOf_90 : decode cX8_onesOf 90 = .ok (.iadd, 1) := dk_96 hN_cX8_onesOf rfl rfl
theorem dX8_onesOf_91 : decode cX8_onesOf 91 = .ok (.goto 4, 3) := dk_167 hN_cX8_onesOf rfl rfl rfl
theorem dX8_onesOf_46 : decode cX8_onesOf 46 = .ok (.aload_n 0, 1) := dk_42 hN_cX8_onesOf rfl rfl
theorem dX8_onesOf_47 : decode cX8_onesOf 47 = .ok (.getfield 18, 3) := dk_180 hN_cX8_onesOf rfl rfl rfl
theorem dX8_onesOf_50 : decode cX8_onesOf 50 = .ok (.iload_n 3, 1) := dk_29 hN_cX8_onesOf rfl rfl
theorem dX8_onesOf_51 : decode cX8_onesOf 51 = .ok (.iconst 2, 1) := dk_5 hN_cX8_onesOf rfl rfl
theorem dX8_onesOf_52 : decode cX8_onesOf 52 = .ok (.iadd, 1) := dk_96 hN_cX8_onesOf rfl rfl
theorem dX8_onesOf_53 : decode cX8_onesOf 53 = .ok (.iaload, 1) := dk_46 hN_cX8_onesOf rfl rfl
theorem dX8_onesOf_54 : decode cX8_onesOf 54 = .ok (.aload_n 0, 1) := dk_42 hN_cX8_onesOf rfl rfl
theorem dX8_onesOf_55 : decode cX8_onesOf 55 = .ok (.getfield 18, 3) := dk_180 hN_cX8_onesOf rfl rfl rfl
theorem dX8_onesOf_58 : decode cX8_onesOf 58 = .ok (.iload_n 3, 1) := dk_29 hN_cX8_onesOf rfl rfl
theorem dX8_onesOf_59 : decode cX8_onesOf 59 = .ok (.iconst 3, 1) := dk_6 hN_cX8_onesOf rfl rfl
theorem dX8_onesOf_60 : decode cX8_onesOf 60 = .ok (.iadd, 1) := dk_96 hN_cX8_onesOf rfl rfl
theorem dX8_onesOf_61 : decode cX8_onesOf 61 = .ok (.iaload, 1) := dk_46 hN_cX8_onesOf rfl rfl
theorem dX8_onesOf_62 : decode cX8_onesOf 62 = .ok (.iadd, 1) := dk_96 hN_cX8_onesOf rfl rfl
theorem dX8_onesOf_63 : decode cX8_onesOf 63 = .ok (.ireturn, 1) := dk_172 hN_cX8_onesOf rfl rfl
theorem dX8_onesOf_13 : decode cX8_onesOf 13 = .ok (.aload_n 0, 1) := dk_42 hN_cX8_onesOf rfl rfl
theorem dX8_onesOf_14 : decode cX8_onesOf 14 = .ok (.getfield 9, 3) := dk_180 hN_cX8_onesOf rfl rfl rfl
theorem dX8_onesOf_17 : decode cX8_onesOf 17 = .ok (.iload_n 1, 1) := dk_27 hN_cX8_onesOf rfl rfl
theorem dX8_onesOf_18 : decode cX8_onesOf 18 = .ok (.iaload, 1) := dk_46 hN_cX8_onesOf rfl rfl
theorem dX8_onesOf_19 : decode cX8_onesOf 19 = .ok (.iload_n 2, 1) := dk_28 hN_cX8_onesOf rfl rfl
theorem dX8_onesOf_20 : decode cX8_onesOf 20 = .ok (.if_icmp .ne 14, 3) := dk_160 hN_cX8_onesOf rfl rfl rfl
theorem dX8_onesOf_34 : decode cX8_onesOf 34 = .ok (.iconst (-1), 1) := dk_2 hN_cX8_onesOf rfl rfl
theorem dX8_onesOf_35 : decode cX8_onesOf 35 = .ok (.ireturn, 1) := dk_172 hN_cX8_onesOf rfl rfl
theorem dX8_onesOf_23 : decode cX8_onesOf 23 = .ok (.aload_n 0, 1) := dk_42 hN_cX8_onesOf rfl rfl
theorem dX8_onesOf_24 : decode cX8_onesOf 24 = .ok (.getfield 18, 3) := dk_180 hN_cX8_onesOf rfl rfl rfl
theorem dX8_onesOf_27 : decode cX8_onesOf 27 = .ok (.iload_n 3, 1) := dk_29 hN_cX8_onesOf rfl rfl
theorem dX8_onesOf_28 : decode cX8_onesOf 28 = .ok (.iconst 1, 1) := dk_4 hN_cX8_onesOf rfl rfl
theorem dX8_onesOf_29 : decode cX8_onesOf 29 = .ok (.iadd, 1) := dk_96 hN_cX8_onesOf rfl rfl
theorem dX8_onesOf_30 : decode cX8_onesOf 30 = .ok (.iaload, 1) := dk_46 hN_cX8_onesOf rfl rfl
theorem dX8_onesOf_31 : decode cX8_onesOf 31 = .ok (.goto 4, 3) := dk_167 hN_cX8_onesOf rfl rfl rfl
theorem dX8_alike_0 : decode cX8_alike 0 = .ok (.iconst 4, 1) := dk_7 hN_cX8_alike rfl rfl
theorem dX8_alike_1 : decode cX8_alike 1 = .ok (.iload_n 1, 1) := dk_27 hN_cX8_alike rfl rfl
theorem dX8_alike_2 : decode cX8_alike 2 = .ok (.imul, 1) := dk_104 hN_cX8_alike rfl rfl
theorem dX8_alike_3 : decode cX8_alike 3 = .ok (.istore_n 2, 1) := dk_61 hN_cX8_alike rfl rfl
theorem dX8_alike_4 : decode cX8_alike 4 = .ok (.aload_n 0, 1) := dk_42 hN_cX8_alike rfl rfl
theorem dX8_alike_5 : decode cX8_alike 5 = .ok (.getfield 18, 3) := dk_180 hN_cX8_alike rfl rfl rfl
theorem dX8_alike_8 : decode cX8_alike 8 = .ok (.iload_n 2, 1) := dk_28 hN_cX8_alike rfl rfl
theorem dX8_alike_9 : decode cX8_alike 9 = .ok (.iaload, 1) := dk_46 hN_cX8_alike rfl rfl
theorem dX8_alike_10 : decode cX8_alike 10 = .ok (.aload_n 0, 1) := dk_42 hN_cX8_alike rfl rfl
theorem dX8_alike_11 : decode cX8_alike 11 = .ok (.getfield 18, 3) := dk_180 hN_cX8_alike rfl rfl rfl
theorem dX8_alike_14 : decode cX8_alike 14 = .ok (.iload_n 2, 1) := dk_28 hN_cX8_alike rfl rfl
theorem dX8_alike_15 : decode cX8_alike 15 = .ok (.iconst 3, 1) := dk_6 hN_cX8_alike rfl rfl
theorem dX8_alike_16 : decode cX8_alike 16 = .ok (.iadd, 1) := dk_96 hN_cX8_alike rfl rfl
theorem dX8_alike_17 : decode cX8_alike 17 = .ok (.iaload, 1) := dk_46 hN_cX8_alike rfl rfl
theorem dX8_alike_18 : decode cX8_alike 18 = .ok (.iadd, 1) := dk_96 hN_cX8_alike rfl rfl
theorem dX8_alike_19 : decode cX8_alike 19 = .ok (.aload_n 0, 1) := dk_42 hN_cX8_alike rfl rfl
theorem dX8_alike_20 : decode cX8_alike 20 = .ok (.getfield 18, 3) := dk_180 hN_cX8_alike rfl rfl rfl
theorem dX8_alike_23 : decode cX8_alike 23 = .ok (.iload_n 2, 1) := dk_28 hN_cX8_alike rfl rfl
theorem dX8_alike_24 : decode cX8_alike 24 = .ok (.iconst 1, 1) := dk_4 hN_cX8_alike rfl rfl
theorem dX8_alike_25 : decode cX8_alike 25 = .ok (.iadd, 1) := dk_96 hN_cX8_alike rfl rfl
theorem dX8_alike_26 : decode cX8_alike 26 = .ok (.iaload, 1) := dk_46 hN_cX8_alike rfl rfl
theorem dX8_alike_27 : decode cX8_alike 27 = .ok (.isub, 1) := dk_100 hN_cX8_alike rfl rfl
theorem dX8_alike_28 : decode cX8_alike 28 = .ok (.aload_n 0, 1) := dk_42 hN_cX8_alike rfl rfl
theorem dX8_alike_29 : decode cX8_alike 29 = .ok (.getfield 18, 3) := dk_180 hN_cX8_alike rfl rfl rfl
theorem dX8_alike_32 : decode cX8_alike 32 = .ok (.iload_n 2, 1) := dk_28 hN_cX8_alike rfl rfl
theorem dX8_alike_33 : decode cX8_alike 33 = .ok (.iconst 2, 1) := dk_5 hN_cX8_alike rfl rfl
theorem dX8_alike_34 : decode cX8_alike 34 = .ok (.iadd, 1) := dk_96 hN_cX8_alike rfl rfl
theorem dX8_alike_35 : decode cX8_alike 35 = .ok (.iaload, 1) := dk_46 hN_cX8_alike rfl rfl
theorem dX8_alike_36 : decode cX8_alike 36 = .ok (.isub, 1) := dk_100 hN_cX8_alike rfl rfl
theorem dX8_alike_37 : decode cX8_alike 37 = .ok (.ireturn, 1) := dk_172 hN_cX8_alike rfl rfl
theorem dX8_winnings_0 : decode cX8_winnings 0 = .ok (.iconst 0, 1) := dk_3 hN_cX8_winnings rfl rfl
theorem dX8_winnings_1 : decode cX8_winnings 1 = .ok (.istore_n 1, 1) := dk_60 hN_cX8_winnings rfl rfl
theorem dX8_winnings_2 : decode cX8_winnings 2 = .ok (.iconst 0, 1) := dk_3 hN_cX8_winnings rfl rfl
theorem dX8_winnings_3 : decode cX8_winnings 3 = .ok (.istore_n 2, 1) := dk_61 hN_cX8_winnings rfl rfl
theorem dX8_winnings_4 : decode cX8_winnings 4 = .ok (.iload_n 2, 1) := dk_28 hN_cX8_winnings rfl rfl
theorem dX8_winnings_5 : decode cX8_winnings 5 = .ok (.iconst 4, 1) := dk_7 hN_cX8_winnings rfl rfl
theorem dX8_winnings_6 : decode cX8_winnings 6 = .ok (.aload_n 0, 1) := dk_42 hN_cX8_winnings rfl rfl
theorem dX8_winnings_7 : decode cX8_winnings 7 = .ok (.getfield 38, 3) := dk_180 hN_cX8_winnings rfl rfl rfl
theorem dX8_winnings_10 : decode cX8_winnings 10 = .ok (.imul, 1) := dk_104 hN_cX8_winnings rfl rfl
theorem dX8_winnings_11 : decode cX8_winnings 11 = .ok (.if_icmp .ge 25, 3) := dk_162 hN_cX8_winnings rfl rfl rfl
theorem dX8_winnings_36 : decode cX8_winnings 36 = .ok (.iload_n 1, 1) := dk_27 hN_cX8_winnings rfl rfl
theorem dX8_winnings_37 : decode cX8_winnings 37 = .ok (.ireturn, 1) := dk_172 hN_cX8_winnings rfl rfl
theorem dX8_winnings_14 : decode cX8_winnings 14 = .ok (.iload_n 1, 1) := dk_27 hN_cX8_winnings rfl rfl
theorem dX8_winnings_15 : decode cX8_winnings 15 = .ok (.aload_n 0, 1) := dk_42 hN_cX8_winnings rfl rfl
theorem dX8_winnings_16 : decode cX8_winnings 16 = .ok (.getfield 21, 3) := dk_180 hN_cX8_winnings rfl rfl rfl
theorem dX8_winnings_19 : decode cX8_winnings 19 = .ok (.iload_n 2, 1) := dk_28 hN_cX8_winnings rfl rfl
theorem dX8_winnings_20 : decode cX8_winnings 20 = .ok (.iaload, 1) := dk_46 hN_cX8_winnings rfl rfl
theorem dX8_winnings_21 : decode cX8_winnings 21 = .ok (.aload_n 0, 1) := dk_42 hN_cX8_winnings rfl rfl
theorem dX8_winnings_22 : decode cX8_winnings 22 = .ok (.getfield 18, 3) := dk_180 hN_cX8_winnings rfl rfl rfl
theorem dX8_winnings_25 : decode cX8_winnings 25 = .ok (.iload_n 2, 1) := dk_28 hN_cX8_winnings rfl rfl
theorem dX8_winnings_26 : decode cX8_winnings 26 = .ok (.iaload, 1) := dk_46 hN_cX8_winnings rfl rfl
theorem dX8_winnings_27 : decode cX8_winnings 27 = .ok (.imul, 1) := dk_104 hN_cX8_winnings rfl rfl
theorem dX8_winnings_28 : decode cX8_winnings 28 = .ok (.iadd, 1) := dk_96 hN_cX8_winnings rfl rfl
theorem dX8_winnings_29 : decode cX8_winnings 29 = .ok (.istore_n 1, 1) := dk_60 hN_cX8_winnings rfl rfl
theorem dX8_winnings_30 : decode cX8_winnings 30 = .ok (.iinc 2 1, 3) := dk_132 hN_cX8_winnings rfl rfl rfl rfl
theorem dX8_winnings_33 : decode cX8_winnings 33 = .ok (.goto (-29), 3) := dk_167 hN_cX8_winnings rfl rfl rfl
theorem dX8_pay_0 : decode cX8_pay 0 = .ok (.iconst 0, 1) := dk_3 hN_cX8_pay rfl rfl
theorem dX8_pay_1 : decode cX8_pay 1 = .ok (.istore_n 2, 1) := dk_61 hN_cX8_pay rfl rfl
theorem dX8_pay_2 : decode cX8_pay 2 = .ok (.iconst 0, 1) := dk_3 hN_cX8_pay rfl rfl
theorem dX8_pay_3 : decode cX8_pay 3 = .ok (.istore_n 3, 1) := dk_62 hN_cX8_pay rfl rfl
theorem dX8_pay_4 : decode cX8_pay 4 = .ok (.iload_n 3, 1) := dk_29 hN_cX8_pay rfl rfl
theorem dX8_pay_5 : decode cX8_pay 5 = .ok (.aload_n 0, 1) := dk_42 hN_cX8_pay rfl rfl
theorem dX8_pay_6 : decode cX8_pay 6 = .ok (.getfield 38, 3) := dk_180 hN_cX8_pay rfl rfl rfl
theorem dX8_pay_9 : decode cX8_pay 9 = .ok (.if_icmp .ge 23, 3) := dk_162 hN_cX8_pay rfl rfl rfl
theorem dX8_pay_32 : decode cX8_pay 32 = .ok (.iload_n 2, 1) := dk_28 hN_cX8_pay rfl rfl
theorem dX8_pay_33 : decode cX8_pay 33 = .ok (.ireturn, 1) := dk_172 hN_cX8_pay rfl rfl
theorem dX8_pay_12 : decode cX8_pay 12 = .ok (.iload_n 2, 1) := dk_28 hN_cX8_pay rfl rfl
theorem dX8_pay_13 : decode cX8_pay 13 = .ok (.aload_n 0, 1) := dk_42 hN_cX8_pay rfl rfl
theorem dX8_pay_14 : decode cX8_pay 14 = .ok (.getfield 21, 3) := dk_180 hN_cX8_pay rfl rfl rfl
theorem dX8_pay_17 : decode cX8_pay 17 = .ok (.aload_n 0, 1) := dk_42 hN_cX8_pay rfl rfl
theorem dX8_pay_18 : decode cX8_pay 18 = .ok (.iload_n 3, 1) := dk_29 hN_cX8_pay rfl rfl
theorem dX8_pay_19 : decode cX8_pay 19 = .ok (.iload_n 1, 1) := dk_27 hN_cX8_pay rfl rfl
theorem dX8_pay_20 : decode cX8_pay 20 = .ok (.invokevirtual 64, 3) := dk_182 hN_cX8_pay rfl rfl rfl
theorem dX8_pay_23 : decode cX8_pay 23 = .ok (.iaload, 1) := dk_46 hN_cX8_pay rfl rfl
theorem dX8_pay_24 : decode cX8_pay 24 = .ok (.iadd, 1) := dk_96 hN_cX8_pay rfl rfl
theorem dX8_pay_25 : decode cX8_pay 25 = .ok (.istore_n 2, 1) := dk_61 hN_cX8_pay rfl rfl
theorem dX8_pay_26 : decode cX8_pay 26 = .ok (.iinc 3 1, 3) := dk_132 hN_cX8_pay rfl rfl rfl rfl
theorem dX8_pay_29 : decode cX8_pay 29 = .ok (.goto (-25), 3) := dk_167 hN_cX8_pay rfl rfl rfl
theorem dX8_leastPaid_0 : decode cX8_leastPaid 0 = .ok (.iconst 0, 1) := dk_3 hN_cX8_leastPaid rfl rfl
theorem dX8_leastPaid_1 : decode cX8_leastPaid 1 = .ok (.istore_n 1, 1) := dk_60 hN_cX8_leastPaid rfl rfl
theorem dX8_leastPaid_2 : decode cX8_leastPaid 2 = .ok (.iconst 1, 1) := dk_4 hN_cX8_leastPaid rfl rfl
theorem dX8_leastPaid_3 : decode cX8_leastPaid 3 = .ok (.istore_n 2, 1) := dk_61 hN_cX8_leastPaid rfl rfl
theorem dX8_leastPaid_4 : decode cX8_leastPaid 4 = .ok (.iload_n 2, 1) := dk_28 hN_cX8_leastPaid rfl rfl
theorem dX8_leastPaid_5 : decode cX8_leastPaid 5 = .ok (.aload_n 0, 1) := dk_42 hN_cX8_leastPaid rfl rfl
theorem dX8_leastPaid_6 : decode cX8_leastPaid 6 = .ok (.invokevirtual 68, 3) := dk_182 hN_cX8_leastPaid rfl rfl rfl
theorem dX8_leastPaid_9 : decode cX8_leastPaid 9 = .ok (.if_icmp .ge 24, 3) := dk_162 hN_cX8_leastPaid rfl rfl rfl
theorem dX8_leastPaid_33 : decode cX8_leastPaid 33 = .ok (.iload_n 1, 1) := dk_27 hN_cX8_leastPaid rfl rfl
theorem dX8_leastPaid_34 : decode cX8_leastPaid 34 = .ok (.ireturn, 1) := dk_172 hN_cX8_leastPaid rfl rfl
theorem dX8_leastPaid_12 : decode cX8_leastPaid 12 = .ok (.aload_n 0, 1) := dk_42 hN_cX8_leastPaid rfl rfl
theorem dX8_leastPaid_13 : decode cX8_leastPaid 13 = .ok (.iload_n 2, 1) := dk_28 hN_cX8_leastPaid rfl rfl
theorem dX8_leastPaid_14 : decode cX8_leastPaid 14 = .ok (.invokevirtual 78, 3) := dk_182 hN_cX8_leastPaid rfl rfl rfl
theorem dX8_leastPaid_17 : decode cX8_leastPaid 17 = .ok (.aload_n 0, 1) := dk_42 hN_cX8_leastPaid rfl rfl
theorem dX8_leastPaid_18 : decode cX8_leastPaid 18 = .ok (.iload_n 1, 1) := dk_27 hN_cX8_leastPaid rfl rfl
theorem dX8_leastPaid_19 : decode cX8_leastPaid 19 = .ok (.invokevirtual 78, 3) := dk_182 hN_cX8_leastPaid rfl rfl rfl
theorem dX8_leastPaid_22 : decode cX8_leastPaid 22 = .ok (.if_icmp .ge 5, 3) := dk_162 hN_cX8_leastPaid rfl rfl rfl
theorem dX8_leastPaid_27 : decode cX8_leastPaid 27 = .ok (.iinc 2 1, 3) := dk_132 hN_cX8_leastPaid rfl rfl rfl rfl
theorem dX8_leastPaid_30 : decode cX8_leastPaid 30 = .ok (.goto (-26), 3) := dk_167 hN_cX8_leastPaid rfl rfl rfl
theorem dX8_leastPaid_25 : decode cX8_leastPaid 25 = .ok (.iload_n 2, 1) := dk_28 hN_cX8_leastPaid rfl rfl
theorem dX8_leastPaid_26 : decode cX8_leastPaid 26 = .ok (.istore_n 1, 1) := dk_60 hN_cX8_leastPaid rfl rfl
theorem dX8_isLookedAt_0 : decode cX8_isLookedAt 0 = .ok (.iconst 0, 1) := dk_3 hN_cX8_isLookedAt rfl rfl
theorem dX8_isLookedAt_1 : decode cX8_isLookedAt 1 = .ok (.istore_n 2, 1) := dk_61 hN_cX8_isLookedAt rfl rfl
theorem dX8_isLookedAt_2 : decode cX8_isLookedAt 2 = .ok (.iload_n 2, 1) := dk_28 hN_cX8_isLookedAt rfl rfl
theorem dX8_isLookedAt_3 : decode cX8_isLookedAt 3 = .ok (.aload_n 0, 1) := dk_42 hN_cX8_isLookedAt rfl rfl
theorem dX8_isLookedAt_4 : decode cX8_isLookedAt 4 = .ok (.getfield 38, 3) := dk_180 hN_cX8_isLookedAt rfl rfl rfl
theorem dX8_isLookedAt_7 : decode cX8_isLookedAt 7 = .ok (.if_icmp .ge 31, 3) := dk_162 hN_cX8_isLookedAt rfl rfl rfl
theorem dX8_isLookedAt_38 : decode cX8_isLookedAt 38 = .ok (.iconst 0, 1) := dk_3 hN_cX8_isLookedAt rfl rfl
theorem dX8_isLookedAt_39 : decode cX8_isLookedAt 39 = .ok (.ireturn, 1) := dk_172 hN_cX8_isLookedAt rfl rfl
theorem dX8_isLookedAt_10 : decode cX8_isLookedAt 10 = .ok (.aload_n 0, 1) := dk_42 hN_cX8_isLookedAt rfl rfl
theorem dX8_isLookedAt_11 : decode cX8_isLookedAt 11 = .ok (.getfield 9, 3) := dk_180 hN_cX8_isLookedAt rfl rfl rfl
theorem dX8_isLookedAt_14 : decode cX8_isLookedAt 14 = .ok (.iload_n 2, 1) := dk_28 hN_cX8_isLookedAt rfl rfl
theorem dX8_isLookedAt_15 : decode cX8_isLookedAt 15 = .ok (.iaload, 1) := dk_46 hN_cX8_isLookedAt rfl rfl
theorem dX8_isLookedAt_16 : decode cX8_isLookedAt 16 = .ok (.iload_n 1, 1) := dk_27 hN_cX8_isLookedAt rfl rfl
theorem dX8_isLookedAt_17 : decode cX8_isLookedAt 17 = .ok (.if_icmp .eq 13, 3) := dk_159 hN_cX8_isLookedAt rfl rfl rfl
theorem dX8_isLookedAt_30 : decode cX8_isLookedAt 30 = .ok (.iconst 1, 1) := dk_4 hN_cX8_isLookedAt rfl rfl
theorem dX8_isLookedAt_31 : decode cX8_isLookedAt 31 = .ok (.ireturn, 1) := dk_172 hN_cX8_isLookedAt rfl rfl
theorem dX8_isLookedAt_20 : decode cX8_isLookedAt 20 = .ok (.aload_n 0, 1) := dk_42 hN_cX8_isLookedAt rfl rfl
theorem dX8_isLookedAt_21 : decode cX8_isLookedAt 21 = .ok (.getfield 15, 3) := dk_180 hN_cX8_isLookedAt rfl rfl rfl
theorem dX8_isLookedAt_24 : decode cX8_isLookedAt 24 = .ok (.iload_n 2, 1) := dk_28 hN_cX8_isLookedAt rfl rfl
theorem dX8_isLookedAt_25 : decode cX8_isLookedAt 25 = .ok (.iaload, 1) := dk_46 hN_cX8_isLookedAt rfl rfl
theorem dX8_isLookedAt_26 : decode cX8_isLookedAt 26 = .ok (.iload_n 1, 1) := dk_27 hN_cX8_isLookedAt rfl rfl
theorem dX8_isLookedAt_27 : decode cX8_isLookedAt 27 = .ok (.if_icmp .ne 5, 3) := dk_160 hN_cX8_isLookedAt rfl rfl rfl
theorem dX8_isLookedAt_32 : decode cX8_isLookedAt 32 = .ok (.iinc 2 1, 3) := dk_132 hN_cX8_isLookedAt rfl rfl rfl rfl
theorem dX8_isLookedAt_35 : decode cX8_isLookedAt 35 = .ok (.goto (-33), 3) := dk_167 hN_cX8_isLookedAt rfl rfl rfl
theorem dX8_turn_0 : decode cX8_turn 0 = .ok (.iconst 0, 1) := dk_3 hN_cX8_turn rfl rfl
theorem dX8_turn_1 : decode cX8_turn 1 = .ok (.istore_n 2, 1) := dk_61 hN_cX8_turn rfl rfl
theorem dX8_turn_2 : decode cX8_turn 2 = .ok (.iload_n 2, 1) := dk_28 hN_cX8_turn rfl rfl
theorem dX8_turn_3 : decode cX8_turn 3 = .ok (.aload_n 0, 1) := dk_42 hN_cX8_turn rfl rfl
theorem dX8_turn_4 : decode cX8_turn 4 = .ok (.getfield 38, 3) := dk_180 hN_cX8_turn rfl rfl rfl
theorem dX8_turn_7 : decode cX8_turn 7 = .ok (.if_icmp .ge 102, 3) := dk_162 hN_cX8_turn rfl rfl rfl
theorem dX8_turn_109 : decode cX8_turn 109 = .ok (.aload_n 0, 1) := dk_42 hN_cX8_turn rfl rfl
theorem dX8_turn_110 : decode cX8_turn 110 = .ok (.dup, 1) := dk_89 hN_cX8_turn rfl rfl
theorem dX8_turn_111 : decode cX8_turn 111 = .ok (.getfield 53, 3) := dk_180 hN_cX8_turn rfl rfl rfl
theorem dX8_turn_114 : decode cX8_turn 114 = .ok (.iconst 1, 1) := dk_4 hN_cX8_turn rfl rfl
theorem dX8_turn_115 : decode cX8_turn 115 = .ok (.iadd, 1) := dk_96 hN_cX8_turn rfl rfl
theorem dX8_turn_116 : decode cX8_turn 116 = .ok (.putfield 53, 3) := dk_181 hN_cX8_turn rfl rfl rfl
theorem dX8_turn_119 : decode cX8_turn 119 = .ok (.return_, 1) := dk_177 hN_cX8_turn rfl rfl
theorem dX8_turn_10 : decode cX8_turn 10 = .ok (.iconst 4, 1) := dk_7 hN_cX8_turn rfl rfl
theorem dX8_turn_11 : decode cX8_turn 11 = .ok (.iload_n 2, 1) := dk_28 hN_cX8_turn rfl rfl
theorem dX8_turn_12 : decode cX8_turn 12 = .ok (.imul, 1) := dk_104 hN_cX8_turn rfl rfl
theorem dX8_turn_13 : decode cX8_turn 13 = .ok (.istore_n 3, 1) := dk_62 hN_cX8_turn rfl rfl
theorem dX8_turn_14 : decode cX8_turn 14 = .ok (.aload_n 0, 1) := dk_42 hN_cX8_turn rfl rfl
theorem dX8_turn_15 : decode cX8_turn 15 = .ok (.getfield 15, 3) := dk_180 hN_cX8_turn rfl rfl rfl
theorem dX8_turn_18 : decode cX8_turn 18 = .ok (.iload_n 2, 1) := dk_28 hN_cX8_turn rfl rfl
theorem dX8_turn_19 : decode cX8_turn 19 = .ok (.iaload, 1) := dk_46 hN_cX8_turn rfl rfl
theorem dX8_turn_20 : decode cX8_turn 20 = .ok (.ifCond .ge 24, 3) := dk_156 hN_cX8_turn rfl rfl rfl
theorem dX8_turn_44 : decode cX8_turn 44 = .ok (.aload_n 0, 1) := dk_42 hN_cX8_turn rfl rfl
theorem dX8_turn_45 : decode cX8_turn 45 = .ok (.getfield 9, 3) := dk_180 hN_cX8_turn rfl rfl rfl
theorem dX8_turn_48 : decode cX8_turn 48 = .ok (.iload_n 2, 1) := dk_28 hN_cX8_turn rfl rfl
theorem dX8_turn_49 : decode cX8_turn 49 = .ok (.iaload, 1) := dk_46 hN_cX8_turn rfl rfl
theorem dX8_turn_50 : decode cX8_turn 50 = .ok (.iload_n 1, 1) := dk_27 hN_cX8_turn rfl rfl
theorem dX8_turn_51 : decode cX8_turn 51 = .ok (.if_icmp .ne 24, 3) := dk_160 hN_cX8_turn rfl rfl rfl
theorem dX8_turn_75 : decode cX8_turn 75 = .ok (.aload_n 0, 1) := dk_42 hN_cX8_turn rfl rfl
theorem dX8_turn_76 : decode cX8_turn 76 = .ok (.getfield 15, 3) := dk_180 hN_cX8_turn rfl rfl rfl
theorem dX8_turn_79 : decode cX8_turn 79 = .ok (.iload_n 2, 1) := dk_28 hN_cX8_turn rfl rfl
theorem dX8_turn_80 : decode cX8_turn 80 = .ok (.iaload, 1) := dk_46 hN_cX8_turn rfl rfl
theorem dX8_turn_81 : decode cX8_turn 81 = .ok (.iload_n 1, 1) := dk_27 hN_cX8_turn rfl rfl
theorem dX8_turn_82 : decode cX8_turn 82 = .ok (.if_icmp .ne 21, 3) := dk_160 hN_cX8_turn rfl rfl rfl
theorem dX8_turn_103 : decode cX8_turn 103 = .ok (.iinc 2 1, 3) := dk_132 hN_cX8_turn rfl rfl rfl rfl
theorem dX8_turn_106 : decode cX8_turn 106 = .ok (.goto (-104), 3) := dk_167 hN_cX8_turn rfl rfl rfl
theorem dX8_turn_85 : decode cX8_turn 85 = .ok (.aload_n 0, 1) := dk_42 hN_cX8_turn rfl rfl
theorem dX8_turn_86 : decode cX8_turn 86 = .ok (.iload_n 3, 1) := dk_29 hN_cX8_turn rfl rfl
theorem dX8_turn_87 : decode cX8_turn 87 = .ok (.iload_n 3, 1) := dk_29 hN_cX8_turn rfl rfl
theorem dX8_turn_88 : decode cX8_turn 88 = .ok (.iconst 1, 1) := dk_4 hN_cX8_turn rfl rfl
theorem dX8_turn_89 : decode cX8_turn 89 = .ok (.iadd, 1) := dk_96 hN_cX8_turn rfl rfl
theorem dX8_turn_90 : decode cX8_turn 90 = .ok (.invokevirtual 81, 3) := dk_182 hN_cX8_turn rfl rfl rfl
theorem dX8_turn_93 : decode cX8_turn 93 = .ok (.aload_n 0, 1) := dk_42 hN_cX8_turn rfl rfl
theorem dX8_turn_94 : decode cX8_turn 94 = .ok (.iload_n 3, 1) := dk_29 hN_cX8_turn rfl rfl
theorem dX8_turn_95 : decode cX8_turn 95 = .ok (.iconst 2, 1) := dk_5 hN_cX8_turn rfl rfl
theorem dX8_turn_96 : decode cX8_turn 96 = .ok (.iadd, 1) := dk_96 hN_cX8_turn rfl rfl
theorem dX8_turn_97 : decode cX8_turn 97 = .ok (.iload_n 3, 1) := dk_29 hN_cX8_turn rfl rfl
theorem dX8_turn_98 : decode cX8_turn 98 = .ok (.iconst 3, 1) := dk_6 hN_cX8_turn rfl rfl
theorem dX8_turn_99 : decode cX8_turn 99 = .ok (.iadd, 1) := dk_96 hN_cX8_turn rfl rfl
theorem dX8_turn_100 : decode cX8_turn 100 = .ok (.invokevirtual 81, 3) := dk_182 hN_cX8_turn rfl rfl rfl
theorem dX8_turn_54 : decode cX8_turn 54 = .ok (.aload_n 0, 1) := dk_42 hN_cX8_turn rfl rfl
theorem dX8_turn_55 : decode cX8_turn 55 = .ok (.iload_n 3, 1) := dk_29 hN_cX8_turn rfl rfl
theorem dX8_turn_56 : decode cX8_turn 56 = .ok (.iload_n 3, 1) := dk_29 hN_cX8_turn rfl rfl
theorem dX8_turn_57 : decode cX8_turn 57 = .ok (.iconst 2, 1) := dk_5 hN_cX8_turn rfl rfl
theorem dX8_turn_58 : decode cX8_turn 58 = .ok (.iadd, 1) := dk_96 hN_cX8_turn rfl rfl
theorem dX8_turn_59 : decode cX8_turn 59 = .ok (.invokevirtual 81, 3) := dk_182 hN_cX8_turn rfl rfl rfl
theorem dX8_turn_62 : decode cX8_turn 62 = .ok (.aload_n 0, 1) := dk_42 hN_cX8_turn rfl rfl
theorem dX8_turn_63 : decode cX8_turn 63 = .ok (.iload_n 3, 1) := dk_29 hN_cX8_turn rfl rfl
theorem dX8_turn_64 : decode cX8_turn 64 = .ok (.iconst 1, 1) := dk_4 hN_cX8_turn rfl rfl
theorem dX8_turn_65 : decode cX8_turn 65 = .ok (.iadd, 1) := dk_96 hN_cX8_turn rfl rfl
theorem dX8_turn_66 : decode cX8_turn 66 = .ok (.iload_n 3, 1) := dk_29 hN_cX8_turn rfl rfl
theorem dX8_turn_67 : decode cX8_turn 67 = .ok (.iconst 3, 1) := dk_6 hN_cX8_turn rfl rfl
theorem dX8_turn_68 : decode cX8_turn 68 = .ok (.iadd, 1) := dk_96 hN_cX8_turn rfl rfl
theorem dX8_turn_69 : decode cX8_turn 69 = .ok (.invokevirtual 81, 3) := dk_182 hN_cX8_turn rfl rfl rfl
theorem dX8_turn_72 : decode cX8_turn 72 = .ok (.goto 31, 3) := dk_167 hN_cX8_turn rfl rfl rfl
theorem dX8_turn_23 : decode cX8_turn 23 = .ok (.aload_n 0, 1) := dk_42 hN_cX8_turn rfl rfl
theorem dX8_turn_24 : decode cX8_turn 24 = .ok (.getfield 9, 3) := dk_180 hN_cX8_turn rfl rfl rfl
theorem dX8_turn_27 : decode cX8_turn 27 = .ok (.iload_n 2, 1) := dk_28 hN_cX8_turn rfl rfl
theorem dX8_turn_28 : decode cX8_turn 28 = .ok (.iaload, 1) := dk_46 hN_cX8_turn rfl rfl
theorem dX8_turn_29 : decode cX8_turn 29 = .ok (.iload_n 1, 1) := dk_27 hN_cX8_turn rfl rfl
theorem dX8_turn_30 : decode cX8_turn 30 = .ok (.if_icmp .ne 73, 3) := dk_160 hN_cX8_turn rfl rfl rfl
theorem dX8_turn_33 : decode cX8_turn 33 = .ok (.aload_n 0, 1) := dk_42 hN_cX8_turn rfl rfl
theorem dX8_turn_34 : decode cX8_turn 34 = .ok (.iload_n 3, 1) := dk_29 hN_cX8_turn rfl rfl
theorem dX8_turn_35 : decode cX8_turn 35 = .ok (.iload_n 3, 1) := dk_29 hN_cX8_turn rfl rfl
theorem dX8_turn_36 : decode cX8_turn 36 = .ok (.iconst 1, 1) := dk_4 hN_cX8_turn rfl rfl
theorem dX8_turn_37 : decode cX8_turn 37 = .ok (.iadd, 1) := dk_96 hN_cX8_turn rfl rfl
theorem dX8_turn_38 : decode cX8_turn 38 = .ok (.invokevirtual 81, 3) := dk_182 hN_cX8_turn rfl rfl rfl
theorem dX8_turn_41 : decode cX8_turn 41 = .ok (.goto 62, 3) := dk_167 hN_cX8_turn rfl rfl rfl
theorem dX8_swap_0 : decode cX8_swap 0 = .ok (.aload_n 0, 1) := dk_42 hN_cX8_swap rfl rfl
theorem dX8_swap_1 : decode cX8_swap 1 = .ok (.getfield 18, 3) := dk_180 hN_cX8_swap rfl rfl rfl
theorem dX8_swap_4 : decode cX8_swap 4 = .ok (.iload_n 1, 1) := dk_27 hN_cX8_swap rfl rfl
theorem dX8_swap_5 : decode cX8_swap 5 = .ok (.iaload, 1) := dk_46 hN_cX8_swap rfl rfl
theorem dX8_swap_6 : decode cX8_swap 6 = .ok (.istore_n 3, 1) := dk_62 hN_cX8_swap rfl rfl
theorem dX8_swap_7 : decode cX8_swap 7 = .ok (.aload_n 0, 1) := dk_42 hN_cX8_swap rfl rfl
theorem dX8_swap_8 : decode cX8_swap 8 = .ok (.getfield 18, 3) := dk_180 hN_cX8_swap rfl rfl rfl
theorem dX8_swap_11 : decode cX8_swap 11 = .ok (.iload_n 1, 1) := dk_27 hN_cX8_swap rfl rfl
theorem dX8_swap_12 : decode cX8_swap 12 = .ok (.aload_n 0, 1) := dk_42 hN_cX8_swap rfl rfl
theorem dX8_swap_13 : decode cX8_swap 13 = .ok (.getfield 18, 3) := dk_180 hN_cX8_swap rfl rfl rfl
theorem dX8_swap_16 : decode cX8_swap 16 = .ok (.iload_n 2, 1) := dk_28 hN_cX8_swap rfl rfl
theorem dX8_swap_17 : decode cX8_swap 17 = .ok (.iaload, 1) := dk_46 hN_cX8_swap rfl rfl
theorem dX8_swap_18 : decode cX8_swap 18 = .ok (.iastore, 1) := dk_79 hN_cX8_swap rfl rfl
theorem dX8_swap_19 : decode cX8_swap 19 = .ok (.aload_n 0, 1) := dk_42 hN_cX8_swap rfl rfl
theorem dX8_swap_20 : decode cX8_swap 20 = .ok (.getfield 18, 3) := dk_180 hN_cX8_swap rfl rfl rfl
theorem dX8_swap_23 : decode cX8_swap 23 = .ok (.iload_n 2, 1) := dk_28 hN_cX8_swap rfl rfl
theorem dX8_swap_24 : decode cX8_swap 24 = .ok (.iload_n 3, 1) := dk_29 hN_cX8_swap rfl rfl
theorem dX8_swap_25 : decode cX8_swap 25 = .ok (.iastore, 1) := dk_79 hN_cX8_swap rfl rfl
theorem dX8_swap_26 : decode cX8_swap 26 = .ok (.aload_n 0, 1) := dk_42 hN_cX8_swap rfl rfl
theorem dX8_swap_27 : decode cX8_swap 27 = .ok (.getfield 21, 3) := dk_180 hN_cX8_swap rfl rfl rfl
theorem dX8_swap_30 : decode cX8_swap 30 = .ok (.iload_n 1, 1) := dk_27 hN_cX8_swap rfl rfl
theorem dX8_swap_31 : decode cX8_swap 31 = .ok (.iaload, 1) := dk_46 hN_cX8_swap rfl rfl
theorem dX8_swap_32 : decode cX8_swap 32 = .ok (.istore 4, 2) := dk_54 hN_cX8_swap rfl rfl rfl
theorem dX8_swap_34 : decode cX8_swap 34 = .ok (.aload_n 0, 1) := dk_42 hN_cX8_swap rfl rfl
theorem dX8_swap_35 : decode cX8_swap 35 = .ok (.getfield 21, 3) := dk_180 hN_cX8_swap rfl rfl rfl
theorem dX8_swap_38 : decode cX8_swap 38 = .ok (.iload_n 1, 1) := dk_27 hN_cX8_swap rfl rfl
theorem dX8_swap_39 : decode cX8_swap 39 = .ok (.aload_n 0, 1) := dk_42 hN_cX8_swap rfl rfl
theorem dX8_swap_40 : decode cX8_swap 40 = .ok (.getfield 21, 3) := dk_180 hN_cX8_swap rfl rfl rfl
theorem dX8_swap_43 : decode cX8_swap 43 = .ok (.iload_n 2, 1) := dk_28 hN_cX8_swap rfl rfl
theorem dX8_swap_44 : decode cX8_swap 44 = .ok (.iaload, 1) := dk_46 hN_cX8_swap rfl rfl
theorem dX8_swap_45 : decode cX8_swap 45 = .ok (.iastore, 1) := dk_79 hN_cX8_swap rfl rfl
theorem dX8_swap_46 : decode cX8_swap 46 = .ok (.aload_n 0, 1) := dk_42 hN_cX8_swap rfl rfl
theorem dX8_swap_47 : decode cX8_swap 47 = .ok (.getfield 21, 3) := dk_180 hN_cX8_swap rfl rfl rfl
theorem dX8_swap_50 : decode cX8_swap 50 = .ok (.iload_n 2, 1) := dk_28 hN_cX8_swap rfl rfl
theorem dX8_swap_51 : decode cX8_swap 51 = .ok (.iload 4, 2) := dk_21 hN_cX8_swap rfl rfl rfl
theorem dX8_swap_53 : decode cX8_swap 53 = .ok (.iastore, 1) := dk_79 hN_cX8_swap rfl rfl
theorem dX8_swap_54 : decode cX8_swap 54 = .ok (.return_, 1) := dk_177 hN_cX8_swap rfl rfl
theorem dX8_remove_0 : decode cX8_remove 0 = .ok (.iload_n 1, 1) := dk_27 hN_cX8_remove rfl rfl
theorem dX8_remove_1 : decode cX8_remove 1 = .ok (.istore_n 2, 1) := dk_61 hN_cX8_remove rfl rfl
theorem dX8_remove_2 : decode cX8_remove 2 = .ok (.iload_n 2, 1) := dk_28 hN_cX8_remove rfl rfl
theorem dX8_remove_3 : decode cX8_remove 3 = .ok (.aload_n 0, 1) := dk_42 hN_cX8_remove rfl rfl
theorem dX8_remove_4 : decode cX8_remove 4 = .ok (.getfield 38, 3) := dk_180 hN_cX8_remove rfl rfl rfl
theorem dX8_remove_7 : decode cX8_remove 7 = .ok (.iconst 1, 1) := dk_4 hN_cX8_remove rfl rfl
theorem dX8_remove_8 : decode cX8_remove 8 = .ok (.isub, 1) := dk_100 hN_cX8_remove rfl rfl
theorem dX8_remove_9 : decode cX8_remove 9 = .ok (.if_icmp .ge 94, 3) := dk_162 hN_cX8_remove rfl rfl rfl
theorem dX8_remove_103 : decode cX8_remove 103 = .ok (.aload_n 0, 1) := dk_42 hN_cX8_remove rfl rfl
theorem dX8_remove_104 : decode cX8_remove 104 = .ok (.dup, 1) := dk_89 hN_cX8_remove rfl rfl
theorem dX8_remove_105 : decode cX8_remove 105 = .ok (.getfield 38, 3) := dk_180 hN_cX8_remove rfl rfl rfl
theorem dX8_remove_108 : decode cX8_remove 108 = .ok (.iconst 1, 1) := dk_4 hN_cX8_remove rfl rfl
theorem dX8_remove_109 : decode cX8_remove 109 = .ok (.isub, 1) := dk_100 hN_cX8_remove rfl rfl
theorem dX8_remove_110 : decode cX8_remove 110 = .ok (.putfield 38, 3) := dk_181 hN_cX8_remove rfl rfl rfl
theorem dX8_remove_113 : decode cX8_remove 113 = .ok (.aload_n 0, 1) := dk_42 hN_cX8_remove rfl rfl
theorem dX8_remove_114 : decode cX8_remove 114 = .ok (.dup, 1) := dk_89 hN_cX8_remove rfl rfl
theorem dX8_remove_115 : decode cX8_remove 115 = .ok (.getfield 53, 3) := dk_180 hN_cX8_remove rfl rfl rfl
theorem dX8_remove_118 : decode cX8_remove 118 = .ok (.iconst 1, 1) := dk_4 hN_cX8_remove rfl rfl
theorem dX8_remove_119 : decode cX8_remove 119 = .ok (.iadd, 1) := dk_96 hN_cX8_remove rfl rfl
theorem dX8_remove_120 : decode cX8_remove 120 = .ok (.putfield 53, 3) := dk_181 hN_cX8_remove rfl rfl rfl
theorem dX8_remove_123 : decode cX8_remove 123 = .ok (.return_, 1) := dk_177 hN_cX8_remove rfl rfl
theorem dX8_remove_12 : decode cX8_remove 12 = .ok (.aload_n 0, 1) := dk_42 hN_cX8_remove rfl rfl
theorem dX8_remove_13 : decode cX8_remove 13 = .ok (.getfield 9, 3) := dk_180 hN_cX8_remove rfl rfl rfl
theorem dX8_remove_16 : decode cX8_remove 16 = .ok (.iload_n 2, 1) := dk_28 hN_cX8_remove rfl rfl
theorem dX8_remove_17 : decode cX8_remove 17 = .ok (.aload_n 0, 1) := dk_42 hN_cX8_remove rfl rfl
theorem dX8_remove_18 : decode cX8_remove 18 = .ok (.getfield 9, 3) := dk_180 hN_cX8_remove rfl rfl rfl
theorem dX8_remove_21 : decode cX8_remove 21 = .ok (.iload_n 2, 1) := dk_28 hN_cX8_remove rfl rfl
theorem dX8_remove_22 : decode cX8_remove 22 = .ok (.iconst 1, 1) := dk_4 hN_cX8_remove rfl rfl
theorem dX8_remove_23 : decode cX8_remove 23 = .ok (.iadd, 1) := dk_96 hN_cX8_remove rfl rfl
theorem dX8_remove_24 : decode cX8_remove 24 = .ok (.iaload, 1) := dk_46 hN_cX8_remove rfl rfl
theorem dX8_remove_25 : decode cX8_remove 25 = .ok (.iastore, 1) := dk_79 hN_cX8_remove rfl rfl
theorem dX8_remove_26 : decode cX8_remove 26 = .ok (.aload_n 0, 1) := dk_42 hN_cX8_remove rfl rfl
theorem dX8_remove_27 : decode cX8_remove 27 = .ok (.getfield 15, 3) := dk_180 hN_cX8_remove rfl rfl rfl
theorem dX8_remove_30 : decode cX8_remove 30 = .ok (.iload_n 2, 1) := dk_28 hN_cX8_remove rfl rfl
theorem dX8_remove_31 : decode cX8_remove 31 = .ok (.aload_n 0, 1) := dk_42 hN_cX8_remove rfl rfl
theorem dX8_remove_32 : decode cX8_remove 32 = .ok (.getfield 15, 3) := dk_180 hN_cX8_remove rfl rfl rfl
theorem dX8_remove_35 : decode cX8_remove 35 = .ok (.iload_n 2, 1) := dk_28 hN_cX8_remove rfl rfl
theorem dX8_remove_36 : decode cX8_remove 36 = .ok (.iconst 1, 1) := dk_4 hN_cX8_remove rfl rfl
theorem dX8_remove_37 : decode cX8_remove 37 = .ok (.iadd, 1) := dk_96 hN_cX8_remove rfl rfl
theorem dX8_remove_38 : decode cX8_remove 38 = .ok (.iaload, 1) := dk_46 hN_cX8_remove rfl rfl
theorem dX8_remove_39 : decode cX8_remove 39 = .ok (.iastore, 1) := dk_79 hN_cX8_remove rfl rfl
theorem dX8_remove_40 : decode cX8_remove 40 = .ok (.iconst 0, 1) := dk_3 hN_cX8_remove rfl rfl
theorem dX8_remove_41 : decode cX8_remove 41 = .ok (.istore_n 3, 1) := dk_62 hN_cX8_remove rfl rfl
theorem dX8_remove_42 : decode cX8_remove 42 = .ok (.iload_n 3, 1) := dk_29 hN_cX8_remove rfl rfl
theorem dX8_remove_43 : decode cX8_remove 43 = .ok (.iconst 4, 1) := dk_7 hN_cX8_remove rfl rfl
theorem dX8_remove_44 : decode cX8_remove 44 = .ok (.if_icmp .ge 53, 3) := dk_162 hN_cX8_remove rfl rfl rfl
theorem dX8_remove_97 : decode cX8_remove 97 = .ok (.iinc 2 1, 3) := dk_132 hN_cX8_remove rfl rfl rfl rfl
theorem dX8_remove_100 : decode cX8_remove 100 = .ok (.goto (-98), 3) := dk_167 hN_cX8_remove rfl rfl rfl
theorem dX8_remove_47 : decode cX8_remove 47 = .ok (.aload_n 0, 1) := dk_42 hN_cX8_remove rfl rfl
theorem dX8_remove_48 : decode cX8_remove 48 = .ok (.getfield 18, 3) := dk_180 hN_cX8_remove rfl rfl rfl
theorem dX8_remove_51 : decode cX8_remove 51 = .ok (.iconst 4, 1) := dk_7 hN_cX8_remove rfl rfl
theorem dX8_remove_52 : decode cX8_remove 52 = .ok (.iload_n 2, 1) := dk_28 hN_cX8_remove rfl rfl
theorem dX8_remove_53 : decode cX8_remove 53 = .ok (.imul, 1) := dk_104 hN_cX8_remove rfl rfl
theorem dX8_remove_54 : decode cX8_remove 54 = .ok (.iload_n 3, 1) := dk_29 hN_cX8_remove rfl rfl
theorem dX8_remove_55 : decode cX8_remove 55 = .ok (.iadd, 1) := dk_96 hN_cX8_remove rfl rfl
theorem dX8_remove_56 : decode cX8_remove 56 = .ok (.aload_n 0, 1) := dk_42 hN_cX8_remove rfl rfl
theorem dX8_remove_57 : decode cX8_remove 57 = .ok (.getfield 18, 3) := dk_180 hN_cX8_remove rfl rfl rfl
theorem dX8_remove_60 : decode cX8_remove 60 = .ok (.iconst 4, 1) := dk_7 hN_cX8_remove rfl rfl
theorem dX8_remove_61 : decode cX8_remove 61 = .ok (.iload_n 2, 1) := dk_28 hN_cX8_remove rfl rfl
theorem dX8_remove_62 : decode cX8_remove 62 = .ok (.imul, 1) := dk_104 hN_cX8_remove rfl rfl
theorem dX8_remove_63 : decode cX8_remove 63 = .ok (.iconst 4, 1) := dk_7 hN_cX8_remove rfl rfl
theorem dX8_remove_64 : decode cX8_remove 64 = .ok (.iadd, 1) := dk_96 hN_cX8_remove rfl rfl
theorem dX8_remove_65 : decode cX8_remove 65 = .ok (.iload_n 3, 1) := dk_29 hN_cX8_remove rfl rfl
theorem dX8_remove_66 : decode cX8_remove 66 = .ok (.iadd, 1) := dk_96 hN_cX8_remove rfl rfl
theorem dX8_remove_67 : decode cX8_remove 67 = .ok (.iaload, 1) := dk_46 hN_cX8_remove rfl rfl
theorem dX8_remove_68 : decode cX8_remove 68 = .ok (.iastore, 1) := dk_79 hN_cX8_remove rfl rfl
theorem dX8_remove_69 : decode cX8_remove 69 = .ok (.aload_n 0, 1) := dk_42 hN_cX8_remove rfl rfl
theorem dX8_remove_70 : decode cX8_remove 70 = .ok (.getfield 21, 3) := dk_180 hN_cX8_remove rfl rfl rfl
theorem dX8_remove_73 : decode cX8_remove 73 = .ok (.iconst 4, 1) := dk_7 hN_cX8_remove rfl rfl
theorem dX8_remove_74 : decode cX8_remove 74 = .ok (.iload_n 2, 1) := dk_28 hN_cX8_remove rfl rfl
theorem dX8_remove_75 : decode cX8_remove 75 = .ok (.imul, 1) := dk_104 hN_cX8_remove rfl rfl
theorem dX8_remove_76 : decode cX8_remove 76 = .ok (.iload_n 3, 1) := dk_29 hN_cX8_remove rfl rfl
theorem dX8_remove_77 : decode cX8_remove 77 = .ok (.iadd, 1) := dk_96 hN_cX8_remove rfl rfl
theorem dX8_remove_78 : decode cX8_remove 78 = .ok (.aload_n 0, 1) := dk_42 hN_cX8_remove rfl rfl
theorem dX8_remove_79 : decode cX8_remove 79 = .ok (.getfield 21, 3) := dk_180 hN_cX8_remove rfl rfl rfl
theorem dX8_remove_82 : decode cX8_remove 82 = .ok (.iconst 4, 1) := dk_7 hN_cX8_remove rfl rfl
theorem dX8_remove_83 : decode cX8_remove 83 = .ok (.iload_n 2, 1) := dk_28 hN_cX8_remove rfl rfl
theorem dX8_remove_84 : decode cX8_remove 84 = .ok (.imul, 1) := dk_104 hN_cX8_remove rfl rfl
theorem dX8_remove_85 : decode cX8_remove 85 = .ok (.iconst 4, 1) := dk_7 hN_cX8_remove rfl rfl
theorem dX8_remove_86 : decode cX8_remove 86 = .ok (.iadd, 1) := dk_96 hN_cX8_remove rfl rfl
theorem dX8_remove_87 : decode cX8_remove 87 = .ok (.iload_n 3, 1) := dk_29 hN_cX8_remove rfl rfl
theorem dX8_remove_88 : decode cX8_remove 88 = .ok (.iadd, 1) := dk_96 hN_cX8_remove rfl rfl
theorem dX8_remove_89 : decode cX8_remove 89 = .ok (.iaload, 1) := dk_46 hN_cX8_remove rfl rfl
theorem dX8_remove_90 : decode cX8_remove 90 = .ok (.iastore, 1) := dk_79 hN_cX8_remove rfl rfl
theorem dX8_remove_91 : decode cX8_remove 91 = .ok (.iinc 3 1, 3) := dk_132 hN_cX8_remove rfl rfl rfl rfl
theorem dX8_remove_94 : decode cX8_remove 94 = .ok (.goto (-52), 3) := dk_167 hN_cX8_remove rfl rfl rfl
theorem dX8_merge_0 : decode cX8_merge 0 = .ok (.aload_n 0, 1) := dk_42 hN_cX8_merge rfl rfl
theorem dX8_merge_1 : decode cX8_merge 1 = .ok (.getfield 38, 3) := dk_180 hN_cX8_merge rfl rfl rfl
theorem dX8_merge_4 : decode cX8_merge 4 = .ok (.iconst 1, 1) := dk_4 hN_cX8_merge rfl rfl
theorem dX8_merge_5 : decode cX8_merge 5 = .ok (.isub, 1) := dk_100 hN_cX8_merge rfl rfl
theorem dX8_merge_6 : decode cX8_merge 6 = .ok (.istore_n 2, 1) := dk_61 hN_cX8_merge rfl rfl
theorem dX8_merge_7 : decode cX8_merge 7 = .ok (.iload_n 2, 1) := dk_28 hN_cX8_merge rfl rfl
theorem dX8_merge_8 : decode cX8_merge 8 = .ok (.ifCond .lt 85, 3) := dk_155 hN_cX8_merge rfl rfl rfl
theorem dX8_merge_93 : decode cX8_merge 93 = .ok (.aload_n 0, 1) := dk_42 hN_cX8_merge rfl rfl
theorem dX8_merge_94 : decode cX8_merge 94 = .ok (.dup, 1) := dk_89 hN_cX8_merge rfl rfl
theorem dX8_merge_95 : decode cX8_merge 95 = .ok (.getfield 53, 3) := dk_180 hN_cX8_merge rfl rfl rfl
theorem dX8_merge_98 : decode cX8_merge 98 = .ok (.iconst 1, 1) := dk_4 hN_cX8_merge rfl rfl
theorem dX8_merge_99 : decode cX8_merge 99 = .ok (.iadd, 1) := dk_96 hN_cX8_merge rfl rfl
theorem dX8_merge_100 : decode cX8_merge 100 = .ok (.putfield 53, 3) := dk_181 hN_cX8_merge rfl rfl rfl
theorem dX8_merge_103 : decode cX8_merge 103 = .ok (.return_, 1) := dk_177 hN_cX8_merge rfl rfl
theorem dX8_merge_11 : decode cX8_merge 11 = .ok (.aload_n 0, 1) := dk_42 hN_cX8_merge rfl rfl
theorem dX8_merge_12 : decode cX8_merge 12 = .ok (.getfield 15, 3) := dk_180 hN_cX8_merge rfl rfl rfl
theorem dX8_merge_15 : decode cX8_merge 15 = .ok (.iload_n 2, 1) := dk_28 hN_cX8_merge rfl rfl
theorem dX8_merge_16 : decode cX8_merge 16 = .ok (.iaload, 1) := dk_46 hN_cX8_merge rfl rfl
theorem dX8_merge_17 : decode cX8_merge 17 = .ok (.ifCond .ge 21, 3) := dk_156 hN_cX8_merge rfl rfl rfl
theorem dX8_merge_38 : decode cX8_merge 38 = .ok (.aload_n 0, 1) := dk_42 hN_cX8_merge rfl rfl
theorem dX8_merge_39 : decode cX8_merge 39 = .ok (.getfield 9, 3) := dk_180 hN_cX8_merge rfl rfl rfl
theorem dX8_merge_42 : decode cX8_merge 42 = .ok (.iload_n 2, 1) := dk_28 hN_cX8_merge rfl rfl
theorem dX8_merge_43 : decode cX8_merge 43 = .ok (.iaload, 1) := dk_46 hN_cX8_merge rfl rfl
theorem dX8_merge_44 : decode cX8_merge 44 = .ok (.iload_n 1, 1) := dk_27 hN_cX8_merge rfl rfl
theorem dX8_merge_45 : decode cX8_merge 45 = .ok (.if_icmp .ne 25, 3) := dk_160 hN_cX8_merge rfl rfl rfl
theorem dX8_merge_70 : decode cX8_merge 70 = .ok (.aload_n 0, 1) := dk_42 hN_cX8_merge rfl rfl
theorem dX8_merge_71 : decode cX8_merge 71 = .ok (.getfield 15, 3) := dk_180 hN_cX8_merge rfl rfl rfl
theorem dX8_merge_74 : decode cX8_merge 74 = .ok (.iload_n 2, 1) := dk_28 hN_cX8_merge rfl rfl
theorem dX8_merge_75 : decode cX8_merge 75 = .ok (.iaload, 1) := dk_46 hN_cX8_merge rfl rfl
theorem dX8_merge_76 : decode cX8_merge 76 = .ok (.iload_n 1, 1) := dk_27 hN_cX8_merge rfl rfl
theorem dX8_merge_77 : decode cX8_merge 77 = .ok (.if_icmp .ne 10, 3) := dk_160 hN_cX8_merge rfl rfl rfl
theorem dX8_merge_87 : decode cX8_merge 87 = .ok (.iinc 2 (-1), 3) := dk_132 hN_cX8_merge rfl rfl rfl rfl
theorem dX8_merge_90 : decode cX8_merge 90 = .ok (.goto (-83), 3) := dk_167 hN_cX8_merge rfl rfl rfl
theorem dX8_merge_80 : decode cX8_merge 80 = .ok (.aload_n 0, 1) := dk_42 hN_cX8_merge rfl rfl
theorem dX8_merge_81 : decode cX8_merge 81 = .ok (.iload_n 2, 1) := dk_28 hN_cX8_merge rfl rfl
theorem dX8_merge_82 : decode cX8_merge 82 = .ok (.iconst 1, 1) := dk_4 hN_cX8_merge rfl rfl
theorem dX8_merge_83 : decode cX8_merge 83 = .ok (.iconst 2, 1) := dk_5 hN_cX8_merge rfl rfl
theorem dX8_merge_84 : decode cX8_merge 84 = .ok (.invokevirtual 89, 3) := dk_182 hN_cX8_merge rfl rfl rfl
theorem dX8_merge_48 : decode cX8_merge 48 = .ok (.aload_n 0, 1) := dk_42 hN_cX8_merge rfl rfl
theorem dX8_merge_49 : decode cX8_merge 49 = .ok (.getfield 9, 3) := dk_180 hN_cX8_merge rfl rfl rfl
theorem dX8_merge_52 : decode cX8_merge 52 = .ok (.iload_n 2, 1) := dk_28 hN_cX8_merge rfl rfl
theorem dX8_merge_53 : decode cX8_merge 53 = .ok (.aload_n 0, 1) := dk_42 hN_cX8_merge rfl rfl
theorem dX8_merge_54 : decode cX8_merge 54 = .ok (.getfield 15, 3) := dk_180 hN_cX8_merge rfl rfl rfl
theorem dX8_merge_57 : decode cX8_merge 57 = .ok (.iload_n 2, 1) := dk_28 hN_cX8_merge rfl rfl
theorem dX8_merge_58 : decode cX8_merge 58 = .ok (.iaload, 1) := dk_46 hN_cX8_merge rfl rfl
theorem dX8_merge_59 : decode cX8_merge 59 = .ok (.iastore, 1) := dk_79 hN_cX8_merge rfl rfl
theorem dX8_merge_60 : decode cX8_merge 60 = .ok (.aload_n 0, 1) := dk_42 hN_cX8_merge rfl rfl
theorem dX8_merge_61 : decode cX8_merge 61 = .ok (.iload_n 2, 1) := dk_28 hN_cX8_merge rfl rfl
theorem dX8_merge_62 : decode cX8_merge 62 = .ok (.iconst 2, 1) := dk_5 hN_cX8_merge rfl rfl
theorem dX8_merge_63 : decode cX8_merge 63 = .ok (.iconst 1, 1) := dk_4 hN_cX8_merge rfl rfl
theorem dX8_merge_64 : decode cX8_merge 64 = .ok (.invokevirtual 89, 3) := dk_182 hN_cX8_merge rfl rfl rfl
theorem dX8_merge_67 : decode cX8_merge 67 = .ok (.goto 20, 3) := dk_167 hN_cX8_merge rfl rfl rfl
theorem dX8_merge_20 : decode cX8_merge 20 = .ok (.aload_n 0, 1) := dk_42 hN_cX8_merge rfl rfl
theorem dX8_merge_21 : decode cX8_merge 21 = .ok (.getfield 9, 3) := dk_180 hN_cX8_merge rfl rfl rfl
theorem dX8_merge_24 : decode cX8_merge 24 = .ok (.iload_n 2, 1) := dk_28 hN_cX8_merge rfl rfl
theorem dX8_merge_25 : decode cX8_merge 25 = .ok (.iaload, 1) := dk_46 hN_cX8_merge rfl rfl
theorem dX8_merge_26 : decode cX8_merge 26 = .ok (.iload_n 1, 1) := dk_27 hN_cX8_merge rfl rfl
theorem dX8_merge_27 : decode cX8_merge 27 = .ok (.if_icmp .ne 60, 3) := dk_160 hN_cX8_merge rfl rfl rfl
theorem dX8_merge_30 : decode cX8_merge 30 = .ok (.aload_n 0, 1) := dk_42 hN_cX8_merge rfl rfl
theorem dX8_merge_31 : decode cX8_merge 31 = .ok (.iload_n 2, 1) := dk_28 hN_cX8_merge rfl rfl
theorem dX8_merge_32 : decode cX8_merge 32 = .ok (.invokevirtual 85, 3) := dk_182 hN_cX8_merge rfl rfl rfl
theorem dX8_merge_35 : decode cX8_merge 35 = .ok (.goto 52, 3) := dk_167 hN_cX8_merge rfl rfl rfl
theorem dX8_putTogether_0 : decode cX8_putTogether 0 = .ok (.iconst 4, 1) := dk_7 hN_cX8_putTogether rfl rfl
theorem dX8_putTogether_1 : decode cX8_putTogether 1 = .ok (.iload_n 1, 1) := dk_27 hN_cX8_putTogether rfl rfl
theorem dX8_putTogether_2 : decode cX8_putTogether 2 = .ok (.imul, 1) := dk_104 hN_cX8_putTogether rfl rfl
theorem dX8_putTogether_3 : decode cX8_putTogether 3 = .ok (.istore 4, 2) := dk_54 hN_cX8_putTogether rfl rfl rfl
theorem dX8_putTogether_5 : decode cX8_putTogether 5 = .ok (.aload_n 0, 1) := dk_42 hN_cX8_putTogether rfl rfl
theorem dX8_putTogether_6 : decode cX8_putTogether 6 = .ok (.getfield 18, 3) := dk_180 hN_cX8_putTogether rfl rfl rfl
theorem dX8_putTogether_9 : decode cX8_putTogether 9 = .ok (.iload 4, 2) := dk_21 hN_cX8_putTogether rfl rfl rfl
theorem dX8_putTogether_11 : decode cX8_putTogether 11 = .ok (.iaload, 1) := dk_46 hN_cX8_putTogether rfl rfl
theorem dX8_putTogether_12 : decode cX8_putTogether 12 = .ok (.aload_n 0, 1) := dk_42 hN_cX8_putTogether rfl rfl
theorem dX8_putTogether_13 : decode cX8_putTogether 13 = .ok (.getfield 18, 3) := dk_180 hN_cX8_putTogether rfl rfl rfl
theorem dX8_putTogether_16 : decode cX8_putTogether 16 = .ok (.iload 4, 2) := dk_21 hN_cX8_putTogether rfl rfl rfl
theorem dX8_putTogether_18 : decode cX8_putTogether 18 = .ok (.iload_n 2, 1) := dk_28 hN_cX8_putTogether rfl rfl
theorem dX8_putTogether_19 : decode cX8_putTogether 19 = .ok (.iadd, 1) := dk_96 hN_cX8_putTogether rfl rfl
theorem dX8_putTogether_20 : decode cX8_putTogether 20 = .ok (.iaload, 1) := dk_46 hN_cX8_putTogether rfl rfl
theorem dX8_putTogether_21 : decode cX8_putTogether 21 = .ok (.iadd, 1) := dk_96 hN_cX8_putTogether rfl rfl
theorem dX8_putTogether_22 : decode cX8_putTogether 22 = .ok (.istore 5, 2) := dk_54 hN_cX8_putTogether rfl rfl rfl
theorem dX8_putTogether_24 : decode cX8_putTogether 24 = .ok (.aload_n 0, 1) := dk_42 hN_cX8_putTogether rfl rfl
theorem dX8_putTogether_25 : decode cX8_putTogether 25 = .ok (.getfield 18, 3) := dk_180 hN_cX8_putTogether rfl rfl rfl
theorem dX8_putTogether_28 : decode cX8_putTogether 28 = .ok (.iload 4, 2) := dk_21 hN_cX8_putTogether rfl rfl rfl
theorem dX8_putTogether_30 : decode cX8_putTogether 30 = .ok (.iload_n 3, 1) := dk_29 hN_cX8_putTogether rfl rfl
theorem dX8_putTogether_31 : decode cX8_putTogether 31 = .ok (.iadd, 1) := dk_96 hN_cX8_putTogether rfl rfl
theorem dX8_putTogether_32 : decode cX8_putTogether 32 = .ok (.iaload, 1) := dk_46 hN_cX8_putTogether rfl rfl
theorem dX8_putTogether_33 : decode cX8_putTogether 33 = .ok (.aload_n 0, 1) := dk_42 hN_cX8_putTogether rfl rfl
theorem dX8_putTogether_34 : decode cX8_putTogether 34 = .ok (.getfield 18, 3) := dk_180 hN_cX8_putTogether rfl rfl rfl
theorem dX8_putTogether_37 : decode cX8_putTogether 37 = .ok (.iload 4, 2) := dk_21 hN_cX8_putTogether rfl rfl rfl
theorem dX8_putTogether_39 : decode cX8_putTogether 39 = .ok (.iload_n 3, 1) := dk_29 hN_cX8_putTogether rfl rfl
theorem dX8_putTogether_40 : decode cX8_putTogether 40 = .ok (.iadd, 1) := dk_96 hN_cX8_putTogether rfl rfl
theorem dX8_putTogether_41 : decode cX8_putTogether 41 = .ok (.iload_n 2, 1) := dk_28 hN_cX8_putTogether rfl rfl
theorem dX8_putTogether_42 : decode cX8_putTogether 42 = .ok (.iadd, 1) := dk_96 hN_cX8_putTogether rfl rfl
theorem dX8_putTogether_43 : decode cX8_putTogether 43 = .ok (.iaload, 1) := dk_46 hN_cX8_putTogether rfl rfl
theorem dX8_putTogether_44 : decode cX8_putTogether 44 = .ok (.iadd, 1) := dk_96 hN_cX8_putTogether rfl rfl
theorem dX8_putTogether_45 : decode cX8_putTogether 45 = .ok (.istore 6, 2) := dk_54 hN_cX8_putTogether rfl rfl rfl
theorem dX8_putTogether_47 : decode cX8_putTogether 47 = .ok (.aload_n 0, 1) := dk_42 hN_cX8_putTogether rfl rfl
theorem dX8_putTogether_48 : decode cX8_putTogether 48 = .ok (.getfield 15, 3) := dk_180 hN_cX8_putTogether rfl rfl rfl
theorem dX8_putTogether_51 : decode cX8_putTogether 51 = .ok (.iload_n 1, 1) := dk_27 hN_cX8_putTogether rfl rfl
theorem dX8_putTogether_52 : decode cX8_putTogether 52 = .ok (.bipush (-2), 2) := dk_16 hN_cX8_putTogether rfl rfl rfl
theorem dX8_putTogether_54 : decode cX8_putTogether 54 = .ok (.iastore, 1) := dk_79 hN_cX8_putTogether rfl rfl
theorem dX8_putTogether_55 : decode cX8_putTogether 55 = .ok (.aload_n 0, 1) := dk_42 hN_cX8_putTogether rfl rfl
theorem dX8_putTogether_56 : decode cX8_putTogether 56 = .ok (.getfield 18, 3) := dk_180 hN_cX8_putTogether rfl rfl rfl
theorem dX8_putTogether_59 : decode cX8_putTogether 59 = .ok (.iload 4, 2) := dk_21 hN_cX8_putTogether rfl rfl rfl
theorem dX8_putTogether_61 : decode cX8_putTogether 61 = .ok (.iload 5, 2) := dk_21 hN_cX8_putTogether rfl rfl rfl
theorem dX8_putTogether_63 : decode cX8_putTogether 63 = .ok (.iastore, 1) := dk_79 hN_cX8_putTogether rfl rfl
theorem dX8_putTogether_64 : decode cX8_putTogether 64 = .ok (.aload_n 0, 1) := dk_42 hN_cX8_putTogether rfl rfl
theorem dX8_putTogether_65 : decode cX8_putTogether 65 = .ok (.getfield 18, 3) := dk_180 hN_cX8_putTogether rfl rfl rfl
theorem dX8_putTogether_68 : decode cX8_putTogether 68 = .ok (.iload 4, 2) := dk_21 hN_cX8_putTogether rfl rfl rfl
theorem dX8_putTogether_70 : decode cX8_putTogether 70 = .ok (.iconst 1, 1) := dk_4 hN_cX8_putTogether rfl rfl
theorem dX8_putTogether_71 : decode cX8_putTogether 71 = .ok (.iadd, 1) := dk_96 hN_cX8_putTogether rfl rfl
theorem dX8_putTogether_72 : decode cX8_putTogether 72 = .ok (.iload 6, 2) := dk_21 hN_cX8_putTogether rfl rfl rfl
theorem dX8_putTogether_74 : decode cX8_putTogether 74 = .ok (.iastore, 1) := dk_79 hN_cX8_putTogether rfl rfl
theorem dX8_putTogether_75 : decode cX8_putTogether 75 = .ok (.aload_n 0, 1) := dk_42 hN_cX8_putTogether rfl rfl
theorem dX8_putTogether_76 : decode cX8_putTogether 76 = .ok (.getfield 18, 3) := dk_180 hN_cX8_putTogether rfl rfl rfl
theorem dX8_putTogether_79 : decode cX8_putTogether 79 = .ok (.iload 4, 2) := dk_21 hN_cX8_putTogether rfl rfl rfl
theorem dX8_putTogether_81 : decode cX8_putTogether 81 = .ok (.iconst 2, 1) := dk_5 hN_cX8_putTogether rfl rfl
theorem dX8_putTogether_82 : decode cX8_putTogether 82 = .ok (.iadd, 1) := dk_96 hN_cX8_putTogether rfl rfl
theorem dX8_putTogether_83 : decode cX8_putTogether 83 = .ok (.iconst 0, 1) := dk_3 hN_cX8_putTogether rfl rfl
theorem dX8_putTogether_84 : decode cX8_putTogether 84 = .ok (.iastore, 1) := dk_79 hN_cX8_putTogether rfl rfl
theorem dX8_putTogether_85 : decode cX8_putTogether 85 = .ok (.aload_n 0, 1) := dk_42 hN_cX8_putTogether rfl rfl
theorem dX8_putTogether_86 : decode cX8_putTogether 86 = .ok (.getfield 18, 3) := dk_180 hN_cX8_putTogether rfl rfl rfl
theorem dX8_putTogether_89 : decode cX8_putTogether 89 = .ok (.iload 4, 2) := dk_21 hN_cX8_putTogether rfl rfl rfl
theorem dX8_putTogether_91 : decode cX8_putTogether 91 = .ok (.iconst 3, 1) := dk_6 hN_cX8_putTogether rfl rfl
theorem dX8_putTogether_92 : decode cX8_putTogether 92 = .ok (.iadd, 1) := dk_96 hN_cX8_putTogether rfl rfl
theorem dX8_putTogether_93 : decode cX8_putTogether 93 = .ok (.iconst 0, 1) := dk_3 hN_cX8_putTogether rfl rfl
theorem dX8_putTogether_94 : decode cX8_putTogether 94 = .ok (.iastore, 1) := dk_79 hN_cX8_putTogether rfl rfl
theorem dX8_putTogether_95 : decode cX8_putTogether 95 = .ok (.iconst 0, 1) := dk_3 hN_cX8_putTogether rfl rfl
theorem dX8_putTogether_96 : decode cX8_putTogether 96 = .ok (.istore 7, 2) := dk_54 hN_cX8_putTogether rfl rfl rfl
theorem dX8_putTogether_98 : decode cX8_putTogether 98 = .ok (.iload 7, 2) := dk_21 hN_cX8_putTogether rfl rfl rfl
theorem dX8_putTogether_100 : decode cX8_putTogether 100 = .ok (.iconst 4, 1) := dk_7 hN_cX8_putTogether rfl rfl
theorem dX8_putTogether_101 : decode cX8_putTogether 101 = .ok (.if_icmp .ge 20, 3) := dk_162 hN_cX8_putTogether rfl rfl rfl
theorem dX8_putTogether_121 : decode cX8_putTogether 121 = .ok (.return_, 1) := dk_177 hN_cX8_putTogether rfl rfl
theorem dX8_putTogether_104 : decode cX8_putTogether 104 = .ok (.aload_n 0, 1) := dk_42 hN_cX8_putTogether rfl rfl
theorem dX8_putTogether_105 : decode cX8_putTogether 105 = .ok (.getfield 21, 3) := dk_180 hN_cX8_putTogether rfl rfl rfl
theorem dX8_putTogether_108 : decode cX8_putTogether 108 = .ok (.iload 4, 2) := dk_21 hN_cX8_putTogether rfl rfl rfl
theorem dX8_putTogether_110 : decode cX8_putTogether 110 = .ok (.iload 7, 2) := dk_21 hN_cX8_putTogether rfl rfl rfl
theorem dX8_putTogether_112 : decode cX8_putTogether 112 = .ok (.iadd, 1) := dk_96 hN_cX8_putTogether rfl rfl
theorem dX8_putTogether_113 : decode cX8_putTogether 113 = .ok (.iconst 0, 1) := dk_3 hN_cX8_putTogether rfl rfl
theorem dX8_putTogether_114 : decode cX8_putTogether 114 = .ok (.iastore, 1) := dk_79 hN_cX8_putTogether rfl rfl
theorem dX8_putTogether_115 : decode cX8_putTogether 115 = .ok (.iinc 7 1, 3) := dk_132 hN_cX8_putTogether rfl rfl rfl rfl
theorem dX8_putTogether_118 : decode cX8_putTogether 118 = .ok (.goto (-20), 3) := dk_167 hN_cX8_putTogether rfl rfl rfl
theorem dX8_move_0 : decode cX8_move 0 = .ok (.aload_n 0, 1) := dk_42 hN_cX8_move rfl rfl
theorem dX8_move_1 : decode cX8_move 1 = .ok (.getfield 18, 3) := dk_180 hN_cX8_move rfl rfl rfl
theorem dX8_move_4 : decode cX8_move 4 = .ok (.iload_n 1, 1) := dk_27 hN_cX8_move rfl rfl
theorem dX8_move_5 : decode cX8_move 5 = .ok (.dup2, 1) := dk_92 hN_cX8_move rfl rfl
theorem dX8_move_6 : decode cX8_move 6 = .ok (.iaload, 1) := dk_46 hN_cX8_move rfl rfl
theorem dX8_move_7 : decode cX8_move 7 = .ok (.iload_n 3, 1) := dk_29 hN_cX8_move rfl rfl
theorem dX8_move_8 : decode cX8_move 8 = .ok (.isub, 1) := dk_100 hN_cX8_move rfl rfl
theorem dX8_move_9 : decode cX8_move 9 = .ok (.iastore, 1) := dk_79 hN_cX8_move rfl rfl
theorem dX8_move_10 : decode cX8_move 10 = .ok (.aload_n 0, 1) := dk_42 hN_cX8_move rfl rfl
theorem dX8_move_11 : decode cX8_move 11 = .ok (.getfield 18, 3) := dk_180 hN_cX8_move rfl rfl rfl
theorem dX8_move_14 : decode cX8_move 14 = .ok (.iload_n 2, 1) := dk_28 hN_cX8_move rfl rfl
theorem dX8_move_15 : decode cX8_move 15 = .ok (.dup2, 1) := dk_92 hN_cX8_move rfl rfl
theorem dX8_move_16 : decode cX8_move 16 = .ok (.iaload, 1) := dk_46 hN_cX8_move rfl rfl
theorem dX8_move_17 : decode cX8_move 17 = .ok (.iload_n 3, 1) := dk_29 hN_cX8_move rfl rfl
theorem dX8_move_18 : decode cX8_move 18 = .ok (.iadd, 1) := dk_96 hN_cX8_move rfl rfl
theorem dX8_move_19 : decode cX8_move 19 = .ok (.iastore, 1) := dk_79 hN_cX8_move rfl rfl
theorem dX8_move_20 : decode cX8_move 20 = .ok (.aload_n 0, 1) := dk_42 hN_cX8_move rfl rfl
theorem dX8_move_21 : decode cX8_move 21 = .ok (.dup, 1) := dk_89 hN_cX8_move rfl rfl
theorem dX8_move_22 : decode cX8_move 22 = .ok (.getfield 53, 3) := dk_180 hN_cX8_move rfl rfl rfl
theorem dX8_move_25 : decode cX8_move 25 = .ok (.iconst 1, 1) := dk_4 hN_cX8_move rfl rfl
theorem dX8_move_26 : decode cX8_move 26 = .ok (.iadd, 1) := dk_96 hN_cX8_move rfl rfl
theorem dX8_move_27 : decode cX8_move 27 = .ok (.putfield 53, 3) := dk_181 hN_cX8_move rfl rfl rfl
theorem dX8_move_30 : decode cX8_move 30 = .ok (.return_, 1) := dk_177 hN_cX8_move rfl rfl
theorem dX2_set_0 : decode cX2_set 0 = .ok (.lload_n 1, 1) := dk_31 hN_cX2_set rfl rfl
theorem dX2_set_1 : decode cX2_set 1 = .ok (.lload_n 3, 1) := dk_33 hN_cX2_set rfl rfl
theorem dX2_set_2 : decode cX2_set 2 = .ok (.invokestatic 13, 3) := dk_184 hN_cX2_set rfl rfl rfl
theorem dX2_set_5 : decode cX2_set 5 = .ok (.lstore 5, 2) := dk_55 hN_cX2_set rfl rfl rfl
theorem dX2_set_7 : decode cX2_set 7 = .ok (.aload_n 0, 1) := dk_42 hN_cX2_set rfl rfl
theorem dX2_set_8 : decode cX2_set 8 = .ok (.lload 5, 2) := dk_22 hN_cX2_set rfl rfl rfl
theorem dX2_set_10 : decode cX2_set 10 = .ok (.lconst 0, 1) := dk_9 hN_cX2_set rfl rfl
theorem dX2_set_11 : decode cX2_set 11 = .ok (.lcmp, 1) := dk_148 hN_cX2_set rfl rfl
theorem dX2_set_12 : decode cX2_set 12 = .ok (.ifCond .ne 7, 3) := dk_154 hN_cX2_set rfl rfl rfl
theorem dX2_set_19 : decode cX2_set 19 = .ok (.lload_n 1, 1) := dk_31 hN_cX2_set rfl rfl
theorem dX2_set_20 : decode cX2_set 20 = .ok (.lload 5, 2) := dk_22 hN_cX2_set rfl rfl rfl
theorem dX2_set_22 : decode cX2_set 22 = .ok (.ldiv, 1) := dk_109 hN_cX2_set rfl rfl
theorem dX2_set_23 : decode cX2_set 23 = .ok (.putfield 17, 3) := dk_181 hN_cX2_set rfl rfl rfl
theorem dX2_set_26 : decode cX2_set 26 = .ok (.aload_n 0, 1) := dk_42 hN_cX2_set rfl rfl
theorem dX2_set_27 : decode cX2_set 27 = .ok (.lload 5, 2) := dk_22 hN_cX2_set rfl rfl rfl
theorem dX2_set_29 : decode cX2_set 29 = .ok (.lconst 0, 1) := dk_9 hN_cX2_set rfl rfl
theorem dX2_set_30 : decode cX2_set 30 = .ok (.lcmp, 1) := dk_148 hN_cX2_set rfl rfl
theorem dX2_set_31 : decode cX2_set 31 = .ok (.ifCond .ne 7, 3) := dk_154 hN_cX2_set rfl rfl rfl
theorem dX2_set_38 : decode cX2_set 38 = .ok (.lload_n 3, 1) := dk_33 hN_cX2_set rfl rfl
theorem dX2_set_39 : decode cX2_set 39 = .ok (.lload 5, 2) := dk_22 hN_cX2_set rfl rfl rfl
theorem dX2_set_41 : decode cX2_set 41 = .ok (.ldiv, 1) := dk_109 hN_cX2_set rfl rfl
theorem dX2_set_42 : decode cX2_set 42 = .ok (.putfield 7, 3) := dk_181 hN_cX2_set rfl rfl rfl
theorem dX2_set_45 : decode cX2_set 45 = .ok (.return_, 1) := dk_177 hN_cX2_set rfl rfl
theorem dX2_set_34 : decode cX2_set 34 = .ok (.lload_n 3, 1) := dk_33 hN_cX2_set rfl rfl
theorem dX2_set_35 : decode cX2_set 35 = .ok (.goto 7, 3) := dk_167 hN_cX2_set rfl rfl rfl
theorem dX2_set_15 : decode cX2_set 15 = .ok (.lload_n 1, 1) := dk_31 hN_cX2_set rfl rfl
theorem dX2_set_16 : decode cX2_set 16 = .ok (.goto 7, 3) := dk_167 hN_cX2_set rfl rfl rfl
theorem dX2_part_0 : decode cX2_part 0 = .ok (.iload_n 1, 1) := dk_27 hN_cX2_part rfl rfl
theorem dX2_part_1 : decode cX2_part 1 = .ok (.ifCond .eq 10, 3) := dk_153 hN_cX2_part rfl rfl rfl
theorem dX2_part_11 : decode cX2_part 11 = .ok (.aload_n 0, 1) := dk_42 hN_cX2_part rfl rfl
theorem dX2_part_12 : decode cX2_part 12 = .ok (.getfield 17, 3) := dk_180 hN_cX2_part rfl rfl rfl
theorem dX2_part_15 : decode cX2_part 15 = .ok (.l2i, 1) := dk_136 hN_cX2_part rfl rfl
theorem dX2_part_16 : decode cX2_part 16 = .ok (.ireturn, 1) := dk_172 hN_cX2_part rfl rfl
theorem dX2_part_4 : decode cX2_part 4 = .ok (.aload_n 0, 1) := dk_42 hN_cX2_part rfl rfl
theorem dX2_part_5 : decode cX2_part 5 = .ok (.getfield 7, 3) := dk_180 hN_cX2_part rfl rfl rfl
theorem dX2_part_8 : decode cX2_part 8 = .ok (.goto 7, 3) := dk_167 hN_cX2_part rfl rfl rfl
theorem dX2_commonPart_0 : decode cX2_commonPart 0 = .ok (.lload_n 0, 1) := dk_30 hN_cX2_commonPart rfl rfl
theorem dX2_commonPart_1 : decode cX2_commonPart 1 = .ok (.lstore 4, 2) := dk_55 hN_cX2_commonPart rfl rfl rfl
theorem dX2_commonPart_3 : decode cX2_commonPart 3 = .ok (.lload_n 2, 1) := dk_32 hN_cX2_commonPart rfl rfl
theorem dX2_commonPart_4 : decode cX2_commonPart 4 = .ok (.lstore 6, 2) := dk_55 hN_cX2_commonPart rfl rfl rfl
theorem dX2_commonPart_6 : decode cX2_commonPart 6 = .ok (.iconst 0, 1) := dk_3 hN_cX2_commonPart rfl rfl
theorem dX2_commonPart_7 : decode cX2_commonPart 7 = .ok (.istore 8, 2) := dk_54 hN_cX2_commonPart rfl rfl rfl
theorem dX2_commonPart_9 : decode cX2_commonPart 9 = .ok (.iload 8, 2) := dk_21 hN_cX2_commonPart rfl rfl rfl
theorem dX2_commonPart_11 : decode cX2_commonPart 11 = .ok (.sipush 128, 3) := dk_17 hN_cX2_commonPart rfl rfl rfl
theorem dX2_commonPart_14 : decode cX2_commonPart 14 = .ok (.if_icmp .ge 31, 3) := dk_162 hN_cX2_commonPart rfl rfl rfl
theorem dX2_commonPart_45 : decode cX2_commonPart 45 = .ok (.lload 4, 2) := dk_22 hN_cX2_commonPart rfl rfl rfl
theorem dX2_commonPart_47 : decode cX2_commonPart 47 = .ok (.lreturn, 1) := dk_173 hN_cX2_commonPart rfl rfl
theorem dX2_commonPart_17 : decode cX2_commonPart 17 = .ok (.lload 6, 2) := dk_22 hN_cX2_commonPart rfl rfl rfl
theorem dX2_commonPart_19 : decode cX2_commonPart 19 = .ok (.lconst 0, 1) := dk_9 hN_cX2_commonPart rfl rfl
theorem dX2_commonPart_20 : decode cX2_commonPart 20 = .ok (.lcmp, 1) := dk_148 hN_cX2_commonPart rfl rfl
theorem dX2_commonPart_21 : decode cX2_commonPart 21 = .ok (.ifCond .eq 24, 3) := dk_153 hN_cX2_commonPart rfl rfl rfl
theorem dX2_commonPart_24 : decode cX2_commonPart 24 = .ok (.lload 4, 2) := dk_22 hN_cX2_commonPart rfl rfl rfl
theorem dX2_commonPart_26 : decode cX2_commonPart 26 = .ok (.lload 6, 2) := dk_22 hN_cX2_commonPart rfl rfl rfl
theorem dX2_commonPart_28 : decode cX2_commonPart 28 = .ok (.lrem, 1) := dk_113 hN_cX2_commonPart rfl rfl
theorem dX2_commonPart_29 : decode cX2_commonPart 29 = .ok (.lstore 9, 2) := dk_55 hN_cX2_commonPart rfl rfl rfl
theorem dX2_commonPart_31 : decode cX2_commonPart 31 = .ok (.lload 6, 2) := dk_22 hN_cX2_commonPart rfl rfl rfl
theorem dX2_commonPart_33 : decode cX2_commonPart 33 = .ok (.lstore 4, 2) := dk_55 hN_cX2_commonPart rfl rfl rfl
theorem dX2_commonPart_35 : decode cX2_commonPart 35 = .ok (.lload 9, 2) := dk_22 hN_cX2_commonPart rfl rfl rfl
theorem dX2_commonPart_37 : decode cX2_commonPart 37 = .ok (.lstore 6, 2) := dk_55 hN_cX2_commonPart rfl rfl rfl
theorem dX2_commonPart_39 : decode cX2_commonPart 39 = .ok (.iinc 8 1, 3) := dk_132 hN_cX2_commonPart rfl rfl rfl rfl
theorem dX2_commonPart_42 : decode cX2_commonPart 42 = .ok (.goto (-33), 3) := dk_167 hN_cX2_commonPart rfl rfl rfl
theorem dX7_isRing_0 : decode cX7_isRing 0 = .ok (.iload_n 1, 1) := dk_27 hN_cX7_isRing rfl rfl
theorem dX7_isRing_1 : decode cX7_isRing 1 = .ok (.ifCond .lt 24, 3) := dk_155 hN_cX7_isRing rfl rfl rfl
theorem dX7_isRing_25 : decode cX7_isRing 25 = .ok (.iconst 0, 1) := dk_3 hN_cX7_isRing rfl rfl
theorem dX7_isRing_26 : decode cX7_isRing 26 = .ok (.ireturn, 1) := dk_172 hN_cX7_isRing rfl rfl
theorem dX7_isRing_4 : decode cX7_isRing 4 = .ok (.iload_n 1, 1) := dk_27 hN_cX7_isRing rfl rfl
theorem dX7_isRing_5 : decode cX7_isRing 5 = .ok (.iconst 1, 1) := dk_4 hN_cX7_isRing rfl rfl
theorem dX7_isRing_6 : decode cX7_isRing 6 = .ok (.aload_n 0, 1) := dk_42 hN_cX7_isRing rfl rfl
theorem dX7_isRing_7 : decode cX7_isRing 7 = .ok (.getfield 9, 3) := dk_180 hN_cX7_isRing rfl rfl rfl
theorem dX7_isRing_10 : decode cX7_isRing 10 = .ok (.getfield 15, 3) := dk_180 hN_cX7_isRing rfl rfl rfl
theorem dX7_isRing_13 : decode cX7_isRing 13 = .ok (.ishl, 1) := dk_120 hN_cX7_isRing rfl rfl
theorem dX7_isRing_14 : decode cX7_isRing 14 = .ok (.if_icmp .ge 11, 3) := dk_162 hN_cX7_isRing rfl rfl rfl
theorem dX7_isRing_17 : decode cX7_isRing 17 = .ok (.iload_n 1, 1) := dk_27 hN_cX7_isRing rfl rfl
theorem dX7_isRing_18 : decode cX7_isRing 18 = .ok (.invokestatic 21, 3) := dk_184 hN_cX7_isRing rfl rfl rfl
theorem dX7_isRing_21 : decode cX7_isRing 21 = .ok (.iconst 3, 1) := dk_6 hN_cX7_isRing rfl rfl
theorem dX7_isRing_22 : decode cX7_isRing 22 = .ok (.if_icmp .ge 5, 3) := dk_162 hN_cX7_isRing rfl rfl rfl
theorem dX7_isRing_27 : decode cX7_isRing 27 = .ok (.iconst 0, 1) := dk_3 hN_cX7_isRing rfl rfl
theorem dX7_isRing_28 : decode cX7_isRing 28 = .ok (.istore_n 2, 1) := dk_61 hN_cX7_isRing rfl rfl
theorem dX7_isRing_29 : decode cX7_isRing 29 = .ok (.iconst 0, 1) := dk_3 hN_cX7_isRing rfl rfl
theorem dX7_isRing_30 : decode cX7_isRing 30 = .ok (.istore_n 3, 1) := dk_62 hN_cX7_isRing rfl rfl
theorem dX7_isRing_31 : decode cX7_isRing 31 = .ok (.iconst 0, 1) := dk_3 hN_cX7_isRing rfl rfl
theorem dX7_isRing_32 : decode cX7_isRing 32 = .ok (.istore 4, 2) := dk_54 hN_cX7_isRing rfl rfl rfl
theorem dX7_isRing_34 : decode cX7_isRing 34 = .ok (.iconst 0, 1) := dk_3 hN_cX7_isRing rfl rfl
theorem dX7_isRing_35 : decode cX7_isRing 35 = .ok (.istore 5, 2) := dk_54 hN_cX7_isRing rfl rfl rfl
theorem dX7_isRing_37 : decode cX7_isRing 37 = .ok (.iload 5, 2) := dk_21 hN_cX7_isRing rfl rfl rfl
theorem dX7_isRing_39 : decode cX7_isRing 39 = .ok (.aload_n 0, 1) := dk_42 hN_cX7_isRing rfl rfl
theorem dX7_isRing_40 : decode cX7_isRing 40 = .ok (.getfield 9, 3) := dk_180 hN_cX7_isRing rfl rfl rfl
theorem dX7_isRing_43 : decode cX7_isRing 43 = .ok (.getfield 15, 3) := dk_180 hN_cX7_isRing rfl rfl rfl
theorem dX7_isRing_46 : decode cX7_isRing 46 = .ok (.if_icmp .ge 61, 3) := dk_162 hN_cX7_isRing rfl rfl rfl
theorem dX7_isRing_107 : decode cX7_isRing 107 = .ok (.iload 4, 2) := dk_21 hN_cX7_isRing rfl rfl rfl
theorem dX7_isRing_109 : decode cX7_isRing 109 = .ok (.ifCond .ne 21, 3) := dk_154 hN_cX7_isRing rfl rfl rfl
theorem dX7_isRing_130 : decode cX7_isRing 130 = .ok (.iconst 0, 1) := dk_3 hN_cX7_isRing rfl rfl
theorem dX7_isRing_131 : decode cX7_isRing 131 = .ok (.ireturn, 1) := dk_172 hN_cX7_isRing rfl rfl
theorem dX7_isRing_112 : decode cX7_isRing 112 = .ok (.iload_n 2, 1) := dk_28 hN_cX7_isRing rfl rfl
theorem dX7_isRing_113 : decode cX7_isRing 113 = .ok (.iload_n 3, 1) := dk_29 hN_cX7_isRing rfl rfl
theorem dX7_isRing_114 : decode cX7_isRing 114 = .ok (.if_icmp .ne 16, 3) := dk_160 hN_cX7_isRing rfl rfl rfl
theorem dX7_isRing_117 : decode cX7_isRing 117 = .ok (.aload_n 0, 1) := dk_42 hN_cX7_isRing rfl rfl
theorem dX7_isRing_118 : decode cX7_isRing 118 = .ok (.iload_n 1, 1) := dk_27 hN_cX7_isRing rfl rfl
theorem dX7_isRing_119 : decode cX7_isRing 119 = .ok (.iload_n 2, 1) := dk_28 hN_cX7_isRing rfl rfl
theorem dX7_isRing_120 : decode cX7_isRing 120 = .ok (.invokevirtual 34, 3) := dk_182 hN_cX7_isRing rfl rfl rfl
theorem dX7_isRing_123 : decode cX7_isRing 123 = .ok (.ifCond .eq 7, 3) := dk_153 hN_cX7_isRing rfl rfl rfl
theorem dX7_isRing_126 : decode cX7_isRing 126 = .ok (.iconst 1, 1) := dk_4 hN_cX7_isRing rfl rfl
theorem dX7_isRing_127 : decode cX7_isRing 127 = .ok (.goto 4, 3) := dk_167 hN_cX7_isRing rfl rfl rfl
theorem dX7_isRing_49 : decode cX7_isRing 49 = .ok (.iload_n 1, 1) := dk_27 hN_cX7_isRing rfl rfl
theorem dX7_isRing_50 : decode cX7_isRing 50 = .ok (.iload 5, 2) := dk_21 hN_cX7_isRing rfl rfl rfl
theorem dX7_isRing_52 : decode cX7_isRing 52 = .ok (.ishr, 1) := dk_122 hN_cX7_isRing rfl rfl
theorem dX7_isRing_53 : decode cX7_isRing 53 = .ok (.iconst 1, 1) := dk_4 hN_cX7_isRing rfl rfl
theorem dX7_isRing_54 : decode cX7_isRing 54 = .ok (.iand, 1) := dk_126 hN_cX7_isRing rfl rfl
theorem dX7_isRing_55 : decode cX7_isRing 55 = .ok (.ifCond .eq 46, 3) := dk_153 hN_cX7_isRing rfl rfl rfl
theorem dX7_isRing_101 : decode cX7_isRing 101 = .ok (.iinc 5 1, 3) := dk_132 hN_cX7_isRing rfl rfl rfl rfl
theorem dX7_isRing_104 : decode cX7_isRing 104 = .ok (.goto (-67), 3) := dk_167 hN_cX7_isRing rfl rfl rfl
theorem dX7_isRing_58 : decode cX7_isRing 58 = .ok (.aload_n 0, 1) := dk_42 hN_cX7_isRing rfl rfl
theorem dX7_isRing_59 : decode cX7_isRing 59 = .ok (.getfield 9, 3) := dk_180 hN_cX7_isRing rfl rfl rfl
theorem dX7_isRing_62 : decode cX7_isRing 62 = .ok (.iload 5, 2) := dk_21 hN_cX7_isRing rfl rfl rfl
theorem dX7_isRing_64 : decode cX7_isRing 64 = .ok (.invokevirtual 27, 3) := dk_182 hN_cX7_isRing rfl rfl rfl
theorem dX7_isRing_67 : decode cX7_isRing 67 = .ok (.ifCond .ne 5, 3) := dk_154 hN_cX7_isRing rfl rfl rfl
theorem dX7_isRing_72 : decode cX7_isRing 72 = .ok (.aload_n 0, 1) := dk_42 hN_cX7_isRing rfl rfl
theorem dX7_isRing_73 : decode cX7_isRing 73 = .ok (.iload 5, 2) := dk_21 hN_cX7_isRing rfl rfl rfl
theorem dX7_isRing_75 : decode cX7_isRing 75 = .ok (.invokevirtual 31, 3) := dk_182 hN_cX7_isRing rfl rfl rfl
theorem dX7_isRing_78 : decode cX7_isRing 78 = .ok (.istore 6, 2) := dk_54 hN_cX7_isRing rfl rfl rfl
theorem dX7_isRing_80 : decode cX7_isRing 80 = .ok (.iload 4, 2) := dk_21 hN_cX7_isRing rfl rfl rfl
theorem dX7_isRing_82 : decode cX7_isRing 82 = .ok (.iload_n 3, 1) := dk_29 hN_cX7_isRing rfl rfl
theorem dX7_isRing_83 : decode cX7_isRing 83 = .ok (.iload 6, 2) := dk_21 hN_cX7_isRing rfl rfl rfl
theorem dX7_isRing_85 : decode cX7_isRing 85 = .ok (.iand, 1) := dk_126 hN_cX7_isRing rfl rfl
theorem dX7_isRing_86 : decode cX7_isRing 86 = .ok (.ior, 1) := dk_128 hN_cX7_isRing rfl rfl
theorem dX7_isRing_87 : decode cX7_isRing 87 = .ok (.istore 4, 2) := dk_54 hN_cX7_isRing rfl rfl rfl
theorem dX7_isRing_89 : decode cX7_isRing 89 = .ok (.iload_n 3, 1) := dk_29 hN_cX7_isRing rfl rfl
theorem dX7_isRing_90 : decode cX7_isRing 90 = .ok (.iload_n 2, 1) := dk_28 hN_cX7_isRing rfl rfl
theorem dX7_isRing_91 : decode cX7_isRing 91 = .ok (.iload 6, 2) := dk_21 hN_cX7_isRing rfl rfl rfl
theorem dX7_isRing_93 : decode cX7_isRing 93 = .ok (.iand, 1) := dk_126 hN_cX7_isRing rfl rfl
theorem dX7_isRing_94 : decode cX7_isRing 94 = .ok (.ior, 1) := dk_128 hN_cX7_isRing rfl rfl
theorem dX7_isRing_95 : decode cX7_isRing 95 = .ok (.istore_n 3, 1) := dk_62 hN_cX7_isRing rfl rfl
theorem dX7_isRing_96 : decode cX7_isRing 96 = .ok (.iload_n 2, 1) := dk_28 hN_cX7_isRing rfl rfl
theorem dX7_isRing_97 : decode cX7_isRing 97 = .ok (.iload 6, 2) := dk_21 hN_cX7_isRing rfl rfl rfl
theorem dX7_isRing_99 : decode cX7_isRing 99 = .ok (.ior, 1) := dk_128 hN_cX7_isRing rfl rfl
theorem dX7_isRing_100 : decode cX7_isRing 100 = .ok (.istore_n 2, 1) := dk_61 hN_cX7_isRing rfl rfl
theorem dX7_isRing_70 : decode cX7_isRing 70 = .ok (.iconst 0, 1) := dk_3 hN_cX7_isRing rfl rfl
theorem dX7_isRing_71 : decode cX7_isRing 71 = .ok (.ireturn, 1) := dk_172 hN_cX7_isRing rfl rfl
theorem dX7_looksOf_0 : decode cX7_looksOf 0 = .ok (.iconst 1, 1) := dk_4 hN_cX7_looksOf rfl rfl
theorem dX7_looksOf_1 : decode cX7_looksOf 1 = .ok (.aload_n 0, 1) := dk_42 hN_cX7_looksOf rfl rfl
theorem dX7_looksOf_2 : decode cX7_looksOf 2 = .ok (.getfield 9, 3) := dk_180 hN_cX7_looksOf rfl rfl rfl
theorem dX7_looksOf_5 : decode cX7_looksOf 5 = .ok (.getfield 38, 3) := dk_180 hN_cX7_looksOf rfl rfl rfl
theorem dX7_looksOf_8 : decode cX7_looksOf 8 = .ok (.iload_n 1, 1) := dk_27 hN_cX7_looksOf rfl rfl
theorem dX7_looksOf_9 : decode cX7_looksOf 9 = .ok (.iaload, 1) := dk_46 hN_cX7_looksOf rfl rfl
theorem dX7_looksOf_10 : decode cX7_looksOf 10 = .ok (.ishl, 1) := dk_120 hN_cX7_looksOf rfl rfl
theorem dX7_looksOf_11 : decode cX7_looksOf 11 = .ok (.iconst 1, 1) := dk_4 hN_cX7_looksOf rfl rfl
theorem dX7_looksOf_12 : decode cX7_looksOf 12 = .ok (.aload_n 0, 1) := dk_42 hN_cX7_looksOf rfl rfl
theorem dX7_looksOf_13 : decode cX7_looksOf 13 = .ok (.getfield 9, 3) := dk_180 hN_cX7_looksOf rfl rfl rfl
theorem dX7_looksOf_16 : decode cX7_looksOf 16 = .ok (.getfield 42, 3) := dk_180 hN_cX7_looksOf rfl rfl rfl
theorem dX7_looksOf_19 : decode cX7_looksOf 19 = .ok (.iload_n 1, 1) := dk_27 hN_cX7_looksOf rfl rfl
theorem dX7_looksOf_20 : decode cX7_looksOf 20 = .ok (.iaload, 1) := dk_46 hN_cX7_looksOf rfl rfl
theorem dX7_looksOf_21 : decode cX7_looksOf 21 = .ok (.ishl, 1) := dk_120 hN_cX7_looksOf rfl rfl
theorem dX7_looksOf_22 : decode cX7_looksOf 22 = .ok (.ior, 1) := dk_128 hN_cX7_looksOf rfl rfl
theorem dX7_looksOf_23 : decode cX7_looksOf 23 = .ok (.ireturn, 1) := dk_172 hN_cX7_looksOf rfl rfl
theorem dX7_hangsTogether_0 : decode cX7_hangsTogether 0 = .ok (.iload_n 2, 1) := dk_28 hN_cX7_hangsTogether rfl rfl
theorem dX7_hangsTogether_1 : decode cX7_hangsTogether 1 = .ok (.iload_n 2, 1) := dk_28 hN_cX7_hangsTogether rfl rfl
theorem dX7_hangsTogether_2 : decode cX7_hangsTogether 2 = .ok (.ineg, 1) := dk_116 hN_cX7_hangsTogether rfl rfl
theorem dX7_hangsTogether_3 : decode cX7_hangsTogether 3 = .ok (.iand, 1) := dk_126 hN_cX7_hangsTogether rfl rfl
theorem dX7_hangsTogether_4 : decode cX7_hangsTogether 4 = .ok (.istore_n 3, 1) := dk_62 hN_cX7_hangsTogether rfl rfl
theorem dX7_hangsTogether_5 : decode cX7_hangsTogether 5 = .ok (.iconst 0, 1) := dk_3 hN_cX7_hangsTogether rfl rfl
theorem dX7_hangsTogether_6 : decode cX7_hangsTogether 6 = .ok (.istore 4, 2) := dk_54 hN_cX7_hangsTogether rfl rfl rfl
theorem dX7_hangsTogether_8 : decode cX7_hangsTogether 8 = .ok (.iload 4, 2) := dk_21 hN_cX7_hangsTogether rfl rfl rfl
theorem dX7_hangsTogether_10 : decode cX7_hangsTogether 10 = .ok (.bipush 8, 2) := dk_16 hN_cX7_hangsTogether rfl rfl rfl
theorem dX7_hangsTogether_12 : decode cX7_hangsTogether 12 = .ok (.if_icmp .ge 59, 3) := dk_162 hN_cX7_hangsTogether rfl rfl rfl
theorem dX7_hangsTogether_71 : decode cX7_hangsTogether 71 = .ok (.iload_n 3, 1) := dk_29 hN_cX7_hangsTogether rfl rfl
theorem dX7_hangsTogether_72 : decode cX7_hangsTogether 72 = .ok (.iload_n 2, 1) := dk_28 hN_cX7_hangsTogether rfl rfl
theorem dX7_hangsTogether_73 : decode cX7_hangsTogether 73 = .ok (.if_icmp .ne 7, 3) := dk_160 hN_cX7_hangsTogether rfl rfl rfl
theorem dX7_hangsTogether_80 : decode cX7_hangsTogether 80 = .ok (.iconst 0, 1) := dk_3 hN_cX7_hangsTogether rfl rfl
theorem dX7_hangsTogether_81 : decode cX7_hangsTogether 81 = .ok (.ireturn, 1) := dk_172 hN_cX7_hangsTogether rfl rfl
theorem dX7_hangsTogether_76 : decode cX7_hangsTogether 76 = .ok (.iconst 1, 1) := dk_4 hN_cX7_hangsTogether rfl rfl
theorem dX7_hangsTogether_77 : decode cX7_hangsTogether 77 = .ok (.goto 4, 3) := dk_167 hN_cX7_hangsTogether rfl rfl rfl
theorem dX7_hangsTogether_15 : decode cX7_hangsTogether 15 = .ok (.iconst 0, 1) := dk_3 hN_cX7_hangsTogether rfl rfl
theorem dX7_hangsTogether_16 : decode cX7_hangsTogether 16 = .ok (.istore 5, 2) := dk_54 hN_cX7_hangsTogether rfl rfl rfl
theorem dX7_hangsTogether_18 : decode cX7_hangsTogether 18 = .ok (.iload 5, 2) := dk_21 hN_cX7_hangsTogether rfl rfl rfl
theorem dX7_hangsTogether_20 : decode cX7_hangsTogether 20 = .ok (.aload_n 0, 1) := dk_42 hN_cX7_hangsTogether rfl rfl
theorem dX7_hangsTogether_21 : decode cX7_hangsTogether 21 = .ok (.getfield 9, 3) := dk_180 hN_cX7_hangsTogether rfl rfl rfl
theorem dX7_hangsTogether_24 : decode cX7_hangsTogether 24 = .ok (.getfield 15, 3) := dk_180 hN_cX7_hangsTogether rfl rfl rfl
theorem dX7_hangsTogether_27 : decode cX7_hangsTogether 27 = .ok (.if_icmp .ge 38, 3) := dk_162 hN_cX7_hangsTogether rfl rfl rfl
theorem dX7_hangsTogether_65 : decode cX7_hangsTogether 65 = .ok (.iinc 4 1, 3) := dk_132 hN_cX7_hangsTogether rfl rfl rfl rfl
theorem dX7_hangsTogether_68 : decode cX7_hangsTogether 68 = .ok (.goto (-60), 3) := dk_167 hN_cX7_hangsTogether rfl rfl rfl
theorem dX7_hangsTogether_30 : decode cX7_hangsTogether 30 = .ok (.iload_n 1, 1) := dk_27 hN_cX7_hangsTogether rfl rfl
theorem dX7_hangsTogether_31 : decode cX7_hangsTogether 31 = .ok (.iload 5, 2) := dk_21 hN_cX7_hangsTogether rfl rfl rfl
theorem dX7_hangsTogether_33 : decode cX7_hangsTogether 33 = .ok (.ishr, 1) := dk_122 hN_cX7_hangsTogether rfl rfl
theorem dX7_hangsTogether_34 : decode cX7_hangsTogether 34 = .ok (.iconst 1, 1) := dk_4 hN_cX7_hangsTogether rfl rfl
theorem dX7_hangsTogether_35 : decode cX7_hangsTogether 35 = .ok (.iand, 1) := dk_126 hN_cX7_hangsTogether rfl rfl
theorem dX7_hangsTogether_36 : decode cX7_hangsTogether 36 = .ok (.ifCond .eq 23, 3) := dk_153 hN_cX7_hangsTogether rfl rfl rfl
theorem dX7_hangsTogether_59 : decode cX7_hangsTogether 59 = .ok (.iinc 5 1, 3) := dk_132 hN_cX7_hangsTogether rfl rfl rfl rfl
theorem dX7_hangsTogether_62 : decode cX7_hangsTogether 62 = .ok (.goto (-44), 3) := dk_167 hN_cX7_hangsTogether rfl rfl rfl
theorem dX7_hangsTogether_39 : decode cX7_hangsTogether 39 = .ok (.aload_n 0, 1) := dk_42 hN_cX7_hangsTogether rfl rfl
theorem dX7_hangsTogether_40 : decode cX7_hangsTogether 40 = .ok (.iload 5, 2) := dk_21 hN_cX7_hangsTogether rfl rfl rfl
theorem dX7_hangsTogether_42 : decode cX7_hangsTogether 42 = .ok (.invokevirtual 31, 3) := dk_182 hN_cX7_hangsTogether rfl rfl rfl
theorem dX7_hangsTogether_45 : decode cX7_hangsTogether 45 = .ok (.iload_n 3, 1) := dk_29 hN_cX7_hangsTogether rfl rfl
theorem dX7_hangsTogether_46 : decode cX7_hangsTogether 46 = .ok (.iand, 1) := dk_126 hN_cX7_hangsTogether rfl rfl
theorem dX7_hangsTogether_47 : decode cX7_hangsTogether 47 = .ok (.ifCond .eq 12, 3) := dk_153 hN_cX7_hangsTogether rfl rfl rfl
theorem dX7_hangsTogether_50 : decode cX7_hangsTogether 50 = .ok (.iload_n 3, 1) := dk_29 hN_cX7_hangsTogether rfl rfl
theorem dX7_hangsTogether_51 : decode cX7_hangsTogether 51 = .ok (.aload_n 0, 1) := dk_42 hN_cX7_hangsTogether rfl rfl
theorem dX7_hangsTogether_52 : decode cX7_hangsTogether 52 = .ok (.iload 5, 2) := dk_21 hN_cX7_hangsTogether rfl rfl rfl
theorem dX7_hangsTogether_54 : decode cX7_hangsTogether 54 = .ok (.invokevirtual 31, 3) := dk_182 hN_cX7_hangsTogether rfl rfl rfl
theorem dX7_hangsTogether_57 : decode cX7_hangsTogether 57 = .ok (.ior, 1) := dk_128 hN_cX7_hangsTogether rfl rfl
theorem dX7_hangsTogether_58 : decode cX7_hangsTogether 58 = .ok (.istore_n 3, 1) := dk_62 hN_cX7_hangsTogether rfl rfl
theorem dX7_number_0 : decode cX7_number 0 = .ok (.iconst 0, 1) := dk_3 hN_cX7_number rfl rfl
theorem dX7_number_1 : decode cX7_number 1 = .ok (.istore_n 1, 1) := dk_60 hN_cX7_number rfl rfl
theorem dX7_number_2 : decode cX7_number 2 = .ok (.iconst 0, 1) := dk_3 hN_cX7_number rfl rfl
theorem dX7_number_3 : decode cX7_number 3 = .ok (.istore_n 2, 1) := dk_61 hN_cX7_number rfl rfl
theorem dX7_number_4 : decode cX7_number 4 = .ok (.iload_n 2, 1) := dk_28 hN_cX7_number rfl rfl
theorem dX7_number_5 : decode cX7_number 5 = .ok (.iconst 1, 1) := dk_4 hN_cX7_number rfl rfl
theorem dX7_number_6 : decode cX7_number 6 = .ok (.aload_n 0, 1) := dk_42 hN_cX7_number rfl rfl
theorem dX7_number_7 : decode cX7_number 7 = .ok (.getfield 9, 3) := dk_180 hN_cX7_number rfl rfl rfl
theorem dX7_number_10 : decode cX7_number 10 = .ok (.getfield 15, 3) := dk_180 hN_cX7_number rfl rfl rfl
theorem dX7_number_13 : decode cX7_number 13 = .ok (.ishl, 1) := dk_120 hN_cX7_number rfl rfl
theorem dX7_number_14 : decode cX7_number 14 = .ok (.if_icmp .ge 20, 3) := dk_162 hN_cX7_number rfl rfl rfl
theorem dX7_number_34 : decode cX7_number 34 = .ok (.iload_n 1, 1) := dk_27 hN_cX7_number rfl rfl
theorem dX7_number_35 : decode cX7_number 35 = .ok (.ireturn, 1) := dk_172 hN_cX7_number rfl rfl
theorem dX7_number_17 : decode cX7_number 17 = .ok (.aload_n 0, 1) := dk_42 hN_cX7_number rfl rfl
theorem dX7_number_18 : decode cX7_number 18 = .ok (.iload_n 2, 1) := dk_28 hN_cX7_number rfl rfl
theorem dX7_number_19 : decode cX7_number 19 = .ok (.invokevirtual 45, 3) := dk_182 hN_cX7_number rfl rfl rfl
theorem dX7_number_22 : decode cX7_number 22 = .ok (.ifCond .eq 6, 3) := dk_153 hN_cX7_number rfl rfl rfl
theorem dX7_number_28 : decode cX7_number 28 = .ok (.iinc 2 1, 3) := dk_132 hN_cX7_number rfl rfl rfl rfl
theorem dX7_number_31 : decode cX7_number 31 = .ok (.goto (-27), 3) := dk_167 hN_cX7_number rfl rfl rfl
theorem dX7_number_25 : decode cX7_number 25 = .ok (.iinc 1 1, 3) := dk_132 hN_cX7_number rfl rfl rfl rfl
theorem dX7_ringAt_0 : decode cX7_ringAt 0 = .ok (.iconst 0, 1) := dk_3 hN_cX7_ringAt rfl rfl
theorem dX7_ringAt_1 : decode cX7_ringAt 1 = .ok (.istore_n 2, 1) := dk_61 hN_cX7_ringAt rfl rfl
theorem dX7_ringAt_2 : decode cX7_ringAt 2 = .ok (.iconst 0, 1) := dk_3 hN_cX7_ringAt rfl rfl
theorem dX7_ringAt_3 : decode cX7_ringAt 3 = .ok (.istore_n 3, 1) := dk_62 hN_cX7_ringAt rfl rfl
theorem dX7_ringAt_4 : decode cX7_ringAt 4 = .ok (.iload_n 3, 1) := dk_29 hN_cX7_ringAt rfl rfl
theorem dX7_ringAt_5 : decode cX7_ringAt 5 = .ok (.iconst 1, 1) := dk_4 hN_cX7_ringAt rfl rfl
theorem dX7_ringAt_6 : decode cX7_ringAt 6 = .ok (.aload_n 0, 1) := dk_42 hN_cX7_ringAt rfl rfl
theorem dX7_ringAt_7 : decode cX7_ringAt 7 = .ok (.getfield 9, 3) := dk_180 hN_cX7_ringAt rfl rfl rfl
theorem dX7_ringAt_10 : decode cX7_ringAt 10 = .ok (.getfield 15, 3) := dk_180 hN_cX7_ringAt rfl rfl rfl
theorem dX7_ringAt_13 : decode cX7_ringAt 13 = .ok (.ishl, 1) := dk_120 hN_cX7_ringAt rfl rfl
theorem dX7_ringAt_14 : decode cX7_ringAt 14 = .ok (.if_icmp .ge 27, 3) := dk_162 hN_cX7_ringAt rfl rfl rfl
theorem dX7_ringAt_41 : decode cX7_ringAt 41 = .ok (.iconst (-1), 1) := dk_2 hN_cX7_ringAt rfl rfl
theorem dX7_ringAt_42 : decode cX7_ringAt 42 = .ok (.ireturn, 1) := dk_172 hN_cX7_ringAt rfl rfl
theorem dX7_ringAt_17 : decode cX7_ringAt 17 = .ok (.aload_n 0, 1) := dk_42 hN_cX7_ringAt rfl rfl
theorem dX7_ringAt_18 : decode cX7_ringAt 18 = .ok (.iload_n 3, 1) := dk_29 hN_cX7_ringAt rfl rfl
theorem dX7_ringAt_19 : decode cX7_ringAt 19 = .ok (.invokevirtual 45, 3) := dk_182 hN_cX7_ringAt rfl rfl rfl
theorem dX7_ringAt_22 : decode cX7_ringAt 22 = .ok (.ifCond .eq 13, 3) := dk_153 hN_cX7_ringAt rfl rfl rfl
theorem dX7_ringAt_35 : decode cX7_ringAt 35 = .ok (.iinc 3 1, 3) := dk_132 hN_cX7_ringAt rfl rfl rfl rfl
theorem dX7_ringAt_38 : decode cX7_ringAt 38 = .ok (.goto (-34), 3) := dk_167 hN_cX7_ringAt rfl rfl rfl
theorem dX7_ringAt_25 : decode cX7_ringAt 25 = .ok (.iload_n 2, 1) := dk_28 hN_cX7_ringAt rfl rfl
theorem dX7_ringAt_26 : decode cX7_ringAt 26 = .ok (.iload_n 1, 1) := dk_27 hN_cX7_ringAt rfl rfl
theorem dX7_ringAt_27 : decode cX7_ringAt 27 = .ok (.if_icmp .ne 5, 3) := dk_160 hN_cX7_ringAt rfl rfl rfl
theorem dX7_ringAt_32 : decode cX7_ringAt 32 = .ok (.iinc 2 1, 3) := dk_132 hN_cX7_ringAt rfl rfl rfl rfl
theorem dX7_ringAt_30 : decode cX7_ringAt 30 = .ok (.iload_n 3, 1) := dk_29 hN_cX7_ringAt rfl rfl
theorem dX7_ringAt_31 : decode cX7_ringAt 31 = .ok (.ireturn, 1) := dk_172 hN_cX7_ringAt rfl rfl
theorem dX7_surplus_0 : decode cX7_surplus 0 = .ok (.iconst 0, 1) := dk_3 hN_cX7_surplus rfl rfl
theorem dX7_surplus_1 : decode cX7_surplus 1 = .ok (.istore_n 2, 1) := dk_61 hN_cX7_surplus rfl rfl
theorem dX7_surplus_2 : decode cX7_surplus 2 = .ok (.bipush 60, 2) := dk_16 hN_cX7_surplus rfl rfl rfl
theorem dX7_surplus_4 : decode cX7_surplus 4 = .ok (.istore_n 3, 1) := dk_62 hN_cX7_surplus rfl rfl
theorem dX7_surplus_5 : decode cX7_surplus 5 = .ok (.iconst 0, 1) := dk_3 hN_cX7_surplus rfl rfl
theorem dX7_surplus_6 : decode cX7_surplus 6 = .ok (.istore 4, 2) := dk_54 hN_cX7_surplus rfl rfl rfl
theorem dX7_surplus_8 : decode cX7_surplus 8 = .ok (.iconst 0, 1) := dk_3 hN_cX7_surplus rfl rfl
theorem dX7_surplus_9 : decode cX7_surplus 9 = .ok (.istore 5, 2) := dk_54 hN_cX7_surplus rfl rfl rfl
theorem dX7_surplus_11 : decode cX7_surplus 11 = .ok (.iload 5, 2) := dk_21 hN_cX7_surplus rfl rfl rfl
theorem dX7_surplus_13 : decode cX7_surplus 13 = .ok (.aload_n 0, 1) := dk_42 hN_cX7_surplus rfl rfl
theorem dX7_surplus_14 : decode cX7_surplus 14 = .ok (.getfield 9, 3) := dk_180 hN_cX7_surplus rfl rfl rfl
theorem dX7_surplus_17 : decode cX7_surplus 17 = .ok (.getfield 15, 3) := dk_180 hN_cX7_surplus rfl rfl rfl
theorem dX7_surplus_20 : decode cX7_surplus 20 = .ok (.if_icmp .ge 62, 3) := dk_162 hN_cX7_surplus rfl rfl rfl
theorem dX7_surplus_82 : decode cX7_surplus 82 = .ok (.iload 4, 2) := dk_21 hN_cX7_surplus rfl rfl rfl
theorem dX7_surplus_84 : decode cX7_surplus 84 = .ok (.iconst 2, 1) := dk_5 hN_cX7_surplus rfl rfl
theorem dX7_surplus_85 : decode cX7_surplus 85 = .ok (.irem, 1) := dk_112 hN_cX7_surplus rfl rfl
theorem dX7_surplus_86 : decode cX7_surplus 86 = .ok (.iconst 1, 1) := dk_4 hN_cX7_surplus rfl rfl
theorem dX7_surplus_87 : decode cX7_surplus 87 = .ok (.if_icmp .ne 7, 3) := dk_160 hN_cX7_surplus rfl rfl rfl
theorem dX7_surplus_94 : decode cX7_surplus 94 = .ok (.iload_n 2, 1) := dk_28 hN_cX7_surplus rfl rfl
theorem dX7_surplus_95 : decode cX7_surplus 95 = .ok (.iconst 2, 1) := dk_5 hN_cX7_surplus rfl rfl
theorem dX7_surplus_96 : decode cX7_surplus 96 = .ok (.iload_n 3, 1) := dk_29 hN_cX7_surplus rfl rfl
theorem dX7_surplus_97 : decode cX7_surplus 97 = .ok (.imul, 1) := dk_104 hN_cX7_surplus rfl rfl
theorem dX7_surplus_98 : decode cX7_surplus 98 = .ok (.isub, 1) := dk_100 hN_cX7_surplus rfl rfl
theorem dX7_surplus_99 : decode cX7_surplus 99 = .ok (.istore 5, 2) := dk_54 hN_cX7_surplus rfl rfl rfl
theorem dX7_surplus_101 : decode cX7_surplus 101 = .ok (.iload 5, 2) := dk_21 hN_cX7_surplus rfl rfl rfl
theorem dX7_surplus_103 : decode cX7_surplus 103 = .ok (.aload_n 0, 1) := dk_42 hN_cX7_surplus rfl rfl
theorem dX7_surplus_104 : decode cX7_surplus 104 = .ok (.getfield 9, 3) := dk_180 hN_cX7_surplus rfl rfl rfl
theorem dX7_surplus_107 : decode cX7_surplus 107 = .ok (.getfield 60, 3) := dk_180 hN_cX7_surplus rfl rfl rfl
theorem dX7_surplus_110 : decode cX7_surplus 110 = .ok (.iload_n 1, 1) := dk_27 hN_cX7_surplus rfl rfl
theorem dX7_surplus_111 : decode cX7_surplus 111 = .ok (.invokestatic 21, 3) := dk_184 hN_cX7_surplus rfl rfl rfl
theorem dX7_surplus_114 : decode cX7_surplus 114 = .ok (.iconst 2, 1) := dk_5 hN_cX7_surplus rfl rfl
theorem dX7_surplus_115 : decode cX7_surplus 115 = .ok (.isub, 1) := dk_100 hN_cX7_surplus rfl rfl
theorem dX7_surplus_116 : decode cX7_surplus 116 = .ok (.imul, 1) := dk_104 hN_cX7_surplus rfl rfl
theorem dX7_surplus_117 : decode cX7_surplus 117 = .ok (.isub, 1) := dk_100 hN_cX7_surplus rfl rfl
theorem dX7_surplus_118 : decode cX7_surplus 118 = .ok (.ireturn, 1) := dk_172 hN_cX7_surplus rfl rfl
theorem dX7_surplus_90 : decode cX7_surplus 90 = .ok (.iload_n 2, 1) := dk_28 hN_cX7_surplus rfl rfl
theorem dX7_surplus_91 : decode cX7_surplus 91 = .ok (.goto 8, 3) := dk_167 hN_cX7_surplus rfl rfl rfl
theorem dX7_surplus_23 : decode cX7_surplus 23 = .ok (.iload_n 1, 1) := dk_27 hN_cX7_surplus rfl rfl
theorem dX7_surplus_24 : decode cX7_surplus 24 = .ok (.iload 5, 2) := dk_21 hN_cX7_surplus rfl rfl rfl
theorem dX7_surplus_26 : decode cX7_surplus 26 = .ok (.ishr, 1) := dk_122 hN_cX7_surplus rfl rfl
theorem dX7_surplus_27 : decode cX7_surplus 27 = .ok (.iconst 1, 1) := dk_4 hN_cX7_surplus rfl rfl
theorem dX7_surplus_28 : decode cX7_surplus 28 = .ok (.iand, 1) := dk_126 hN_cX7_surplus rfl rfl
theorem dX7_surplus_29 : decode cX7_surplus 29 = .ok (.ifCond .eq 47, 3) := dk_153 hN_cX7_surplus rfl rfl rfl
theorem dX7_surplus_76 : decode cX7_surplus 76 = .ok (.iinc 5 1, 3) := dk_132 hN_cX7_surplus rfl rfl rfl rfl
theorem dX7_surplus_79 : decode cX7_surplus 79 = .ok (.goto (-68), 3) := dk_167 hN_cX7_surplus rfl rfl rfl
theorem dX7_surplus_32 : decode cX7_surplus 32 = .ok (.aload_n 0, 1) := dk_42 hN_cX7_surplus rfl rfl
theorem dX7_surplus_33 : decode cX7_surplus 33 = .ok (.getfield 9, 3) := dk_180 hN_cX7_surplus rfl rfl rfl
theorem dX7_surplus_36 : decode cX7_surplus 36 = .ok (.iload 5, 2) := dk_21 hN_cX7_surplus rfl rfl rfl
theorem dX7_surplus_38 : decode cX7_surplus 38 = .ok (.invokevirtual 48, 3) := dk_182 hN_cX7_surplus rfl rfl rfl
theorem dX7_surplus_41 : decode cX7_surplus 41 = .ok (.istore 6, 2) := dk_54 hN_cX7_surplus rfl rfl rfl
theorem dX7_surplus_43 : decode cX7_surplus 43 = .ok (.iload_n 2, 1) := dk_28 hN_cX7_surplus rfl rfl
theorem dX7_surplus_44 : decode cX7_surplus 44 = .ok (.iload 6, 2) := dk_21 hN_cX7_surplus rfl rfl rfl
theorem dX7_surplus_46 : decode cX7_surplus 46 = .ok (.invokestatic 51, 3) := dk_184 hN_cX7_surplus rfl rfl rfl
theorem dX7_surplus_49 : decode cX7_surplus 49 = .ok (.iadd, 1) := dk_96 hN_cX7_surplus rfl rfl
theorem dX7_surplus_50 : decode cX7_surplus 50 = .ok (.istore_n 2, 1) := dk_61 hN_cX7_surplus rfl rfl
theorem dX7_surplus_51 : decode cX7_surplus 51 = .ok (.iload_n 3, 1) := dk_29 hN_cX7_surplus rfl rfl
theorem dX7_surplus_52 : decode cX7_surplus 52 = .ok (.iload 6, 2) := dk_21 hN_cX7_surplus rfl rfl rfl
theorem dX7_surplus_54 : decode cX7_surplus 54 = .ok (.invokestatic 51, 3) := dk_184 hN_cX7_surplus rfl rfl rfl
theorem dX7_surplus_57 : decode cX7_surplus 57 = .ok (.invokestatic 56, 3) := dk_184 hN_cX7_surplus rfl rfl rfl
theorem dX7_surplus_60 : decode cX7_surplus 60 = .ok (.istore_n 3, 1) := dk_62 hN_cX7_surplus rfl rfl
theorem dX7_surplus_61 : decode cX7_surplus 61 = .ok (.iload 4, 2) := dk_21 hN_cX7_surplus rfl rfl rfl
theorem dX7_surplus_63 : decode cX7_surplus 63 = .ok (.iload 6, 2) := dk_21 hN_cX7_surplus rfl rfl rfl
theorem dX7_surplus_65 : decode cX7_surplus 65 = .ok (.ifCond .ge 7, 3) := dk_156 hN_cX7_surplus rfl rfl rfl
theorem dX7_surplus_72 : decode cX7_surplus 72 = .ok (.iconst 0, 1) := dk_3 hN_cX7_surplus rfl rfl
theorem dX7_surplus_73 : decode cX7_surplus 73 = .ok (.iadd, 1) := dk_96 hN_cX7_surplus rfl rfl
theorem dX7_surplus_74 : decode cX7_surplus 74 = .ok (.istore 4, 2) := dk_54 hN_cX7_surplus rfl rfl rfl
theorem dX7_surplus_68 : decode cX7_surplus 68 = .ok (.iconst 1, 1) := dk_4 hN_cX7_surplus rfl rfl
theorem dX7_surplus_69 : decode cX7_surplus 69 = .ok (.goto 4, 3) := dk_167 hN_cX7_surplus rfl rfl rfl
theorem dX7_greatest_0 : decode cX7_greatest 0 = .ok (.bipush (-2), 2) := dk_16 hN_cX7_greatest rfl rfl rfl
theorem dX7_greatest_2 : decode cX7_greatest 2 = .ok (.istore_n 1, 1) := dk_60 hN_cX7_greatest rfl rfl
theorem dX7_greatest_3 : decode cX7_greatest 3 = .ok (.iconst 0, 1) := dk_3 hN_cX7_greatest rfl rfl
theorem dX7_greatest_4 : decode cX7_greatest 4 = .ok (.istore_n 2, 1) := dk_61 hN_cX7_greatest rfl rfl
theorem dX7_greatest_5 : decode cX7_greatest 5 = .ok (.iload_n 2, 1) := dk_28 hN_cX7_greatest rfl rfl
theorem dX7_greatest_6 : decode cX7_greatest 6 = .ok (.iconst 1, 1) := dk_4 hN_cX7_greatest rfl rfl
theorem dX7_greatest_7 : decode cX7_greatest 7 = .ok (.aload_n 0, 1) := dk_42 hN_cX7_greatest rfl rfl
theorem dX7_greatest_8 : decode cX7_greatest 8 = .ok (.getfield 9, 3) := dk_180 hN_cX7_greatest rfl rfl rfl
theorem dX7_greatest_11 : decode cX7_greatest 11 = .ok (.getfield 15, 3) := dk_180 hN_cX7_greatest rfl rfl rfl
theorem dX7_greatest_14 : decode cX7_greatest 14 = .ok (.ishl, 1) := dk_120 hN_cX7_greatest rfl rfl
theorem dX7_greatest_15 : decode cX7_greatest 15 = .ok (.if_icmp .ge 36, 3) := dk_162 hN_cX7_greatest rfl rfl rfl
theorem dX7_greatest_51 : decode cX7_greatest 51 = .ok (.iload_n 1, 1) := dk_27 hN_cX7_greatest rfl rfl
theorem dX7_greatest_52 : decode cX7_greatest 52 = .ok (.ireturn, 1) := dk_172 hN_cX7_greatest rfl rfl
theorem dX7_greatest_18 : decode cX7_greatest 18 = .ok (.aload_n 0, 1) := dk_42 hN_cX7_greatest rfl rfl
theorem dX7_greatest_19 : decode cX7_greatest 19 = .ok (.iload_n 2, 1) := dk_28 hN_cX7_greatest rfl rfl
theorem dX7_greatest_20 : decode cX7_greatest 20 = .ok (.invokevirtual 45, 3) := dk_182 hN_cX7_greatest rfl rfl rfl
theorem dX7_greatest_23 : decode cX7_greatest 23 = .ok (.ifCond .eq 22, 3) := dk_153 hN_cX7_greatest rfl rfl rfl
theorem dX7_greatest_45 : decode cX7_greatest 45 = .ok (.iinc 2 1, 3) := dk_132 hN_cX7_greatest rfl rfl rfl rfl
theorem dX7_greatest_48 : decode cX7_greatest 48 = .ok (.goto (-43), 3) := dk_167 hN_cX7_greatest rfl rfl rfl
theorem dX7_greatest_26 : decode cX7_greatest 26 = .ok (.iload_n 1, 1) := dk_27 hN_cX7_greatest rfl rfl
theorem dX7_greatest_27 : decode cX7_greatest 27 = .ok (.ifCond .lt 16, 3) := dk_155 hN_cX7_greatest rfl rfl rfl
theorem dX7_greatest_43 : decode cX7_greatest 43 = .ok (.iload_n 2, 1) := dk_28 hN_cX7_greatest rfl rfl
theorem dX7_greatest_44 : decode cX7_greatest 44 = .ok (.istore_n 1, 1) := dk_60 hN_cX7_greatest rfl rfl
theorem dX7_greatest_30 : decode cX7_greatest 30 = .ok (.aload_n 0, 1) := dk_42 hN_cX7_greatest rfl rfl
theorem dX7_greatest_31 : decode cX7_greatest 31 = .ok (.iload_n 2, 1) := dk_28 hN_cX7_greatest rfl rfl
theorem dX7_greatest_32 : decode cX7_greatest 32 = .ok (.invokevirtual 63, 3) := dk_182 hN_cX7_greatest rfl rfl rfl
theorem dX7_greatest_35 : decode cX7_greatest 35 = .ok (.aload_n 0, 1) := dk_42 hN_cX7_greatest rfl rfl
theorem dX7_greatest_36 : decode cX7_greatest 36 = .ok (.iload_n 1, 1) := dk_27 hN_cX7_greatest rfl rfl
theorem dX7_greatest_37 : decode cX7_greatest 37 = .ok (.invokevirtual 63, 3) := dk_182 hN_cX7_greatest rfl rfl rfl
theorem dX7_greatest_40 : decode cX7_greatest 40 = .ok (.if_icmp .le 5, 3) := dk_164 hN_cX7_greatest rfl rfl rfl
theorem dX5_open_0 : decode cX5_open 0 = .ok (.aload_n 0, 1) := dk_42 hN_cX5_open rfl rfl
theorem dX5_open_1 : decode cX5_open 1 = .ok (.aload_n 1, 1) := dk_43 hN_cX5_open rfl rfl
theorem dX5_open_2 : decode cX5_open 2 = .ok (.getfield 19, 3) := dk_180 hN_cX5_open rfl rfl rfl
theorem dX5_open_5 : decode cX5_open 5 = .ok (.putfield 24, 3) := dk_181 hN_cX5_open rfl rfl rfl
theorem dX5_open_8 : decode cX5_open 8 = .ok (.aload_n 0, 1) := dk_42 hN_cX5_open rfl rfl
theorem dX5_open_9 : decode cX5_open 9 = .ok (.aload_n 1, 1) := dk_43 hN_cX5_open rfl rfl
theorem dX5_open_10 : decode cX5_open 10 = .ok (.getfield 25, 3) := dk_180 hN_cX5_open rfl rfl rfl
theorem dX5_open_13 : decode cX5_open 13 = .ok (.putfield 28, 3) := dk_181 hN_cX5_open rfl rfl rfl
theorem dX5_open_16 : decode cX5_open 16 = .ok (.aload_n 0, 1) := dk_42 hN_cX5_open rfl rfl
theorem dX5_open_17 : decode cX5_open 17 = .ok (.iconst 0, 1) := dk_3 hN_cX5_open rfl rfl
theorem dX5_open_18 : decode cX5_open 18 = .ok (.putfield 9, 3) := dk_181 hN_cX5_open rfl rfl rfl
theorem dX5_open_21 : decode cX5_open 21 = .ok (.aload_n 0, 1) := dk_42 hN_cX5_open rfl rfl
theorem dX5_open_22 : decode cX5_open 22 = .ok (.iconst 0, 1) := dk_3 hN_cX5_open rfl rfl
theorem dX5_open_23 : decode cX5_open 23 = .ok (.putfield 29, 3) := dk_181 hN_cX5_open rfl rfl rfl
theorem dX5_open_26 : decode cX5_open 26 = .ok (.aload_n 0, 1) := dk_42 hN_cX5_open rfl rfl
theorem dX5_open_27 : decode cX5_open 27 = .ok (.iconst 0, 1) := dk_3 hN_cX5_open rfl rfl
theorem dX5_open_28 : decode cX5_open 28 = .ok (.putfield 32, 3) := dk_181 hN_cX5_open rfl rfl rfl
theorem dX5_open_31 : decode cX5_open 31 = .ok (.iconst 1, 1) := dk_4 hN_cX5_open rfl rfl
theorem dX5_open_32 : decode cX5_open 32 = .ok (.aload_n 0, 1) := dk_42 hN_cX5_open rfl rfl
theorem dX5_open_33 : decode cX5_open 33 = .ok (.getfield 28, 3) := dk_180 hN_cX5_open rfl rfl rfl
theorem dX5_open_36 : decode cX5_open 36 = .ok (.ishl, 1) := dk_120 hN_cX5_open rfl rfl
theorem dX5_open_37 : decode cX5_open 37 = .ok (.iconst 1, 1) := dk_4 hN_cX5_open rfl rfl
theorem dX5_open_38 : decode cX5_open 38 = .ok (.isub, 1) := dk_100 hN_cX5_open rfl rfl
theorem dX5_open_39 : decode cX5_open 39 = .ok (.istore_n 2, 1) := dk_61 hN_cX5_open rfl rfl
theorem dX5_open_40 : decode cX5_open 40 = .ok (.iconst 0, 1) := dk_3 hN_cX5_open rfl rfl
theorem dX5_open_41 : decode cX5_open 41 = .ok (.istore_n 3, 1) := dk_62 hN_cX5_open rfl rfl
theorem dX5_open_42 : decode cX5_open 42 = .ok (.iload_n 3, 1) := dk_29 hN_cX5_open rfl rfl
theorem dX5_open_43 : decode cX5_open 43 = .ok (.iload_n 2, 1) := dk_28 hN_cX5_open rfl rfl
theorem dX5_open_44 : decode cX5_open 44 = .ok (.if_icmp .gt 16, 3) := dk_163 hN_cX5_open rfl rfl rfl
theorem dX5_open_60 : decode cX5_open 60 = .ok (.iconst 0, 1) := dk_3 hN_cX5_open rfl rfl
theorem dX5_open_61 : decode cX5_open 61 = .ok (.istore_n 3, 1) := dk_62 hN_cX5_open rfl rfl
theorem dX5_open_47 : decode cX5_open 47 = .ok (.aload_n 0, 1) := dk_42 hN_cX5_open rfl rfl
theorem dX5_open_48 : decode cX5_open 48 = .ok (.getfield 15, 3) := dk_180 hN_cX5_open rfl rfl rfl
theorem dX5_open_51 : decode cX5_open 51 = .ok (.iload_n 3, 1) := dk_29 hN_cX5_open rfl rfl
theorem dX5_open_52 : decode cX5_open 52 = .ok (.iconst 0, 1) := dk_3 hN_cX5_open rfl rfl
theorem dX5_open_53 : decode cX5_open 53 = .ok (.bastore, 1) := dk_84 hN_cX5_open rfl rfl
theorem dX5_open_54 : decode cX5_open 54 = .ok (.iinc 3 1, 3) := dk_132 hN_cX5_open rfl rfl rfl rfl
theorem dX5_open_57 : decode cX5_open 57 = .ok (.goto (-15), 3) := dk_167 hN_cX5_open rfl rfl rfl
theorem dX5_open_62 : decode cX5_open 62 = .ok (.iload_n 3, 1) := dk_29 hN_cX5_open rfl rfl
theorem dX5_open_63 : decode cX5_open 63 = .ok (.iconst 1, 1) := dk_4 hN_cX5_open rfl rfl
theorem dX5_open_64 : decode cX5_open 64 = .ok (.aload_n 0, 1) := dk_42 hN_cX5_open rfl rfl
theorem dX5_open_65 : decode cX5_open 65 = .ok (.getfield 24, 3) := dk_180 hN_cX5_open rfl rfl rfl
theorem dX5_open_68 : decode cX5_open 68 = .ok (.ishl, 1) := dk_120 hN_cX5_open rfl rfl
theorem dX5_open_69 : decode cX5_open 69 = .ok (.if_icmp .ge 63, 3) := dk_162 hN_cX5_open rfl rfl rfl
theorem dX5_open_132 : decode cX5_open 132 = .ok (.aload_n 0, 1) := dk_42 hN_cX5_open rfl rfl
theorem dX5_open_133 : decode cX5_open 133 = .ok (.invokevirtual 39, 3) := dk_182 hN_cX5_open rfl rfl rfl
theorem dX5_open_136 : decode cX5_open 136 = .ok (.return_, 1) := dk_177 hN_cX5_open rfl rfl
theorem dX5_open_72 : decode cX5_open 72 = .ok (.aload_n 0, 1) := dk_42 hN_cX5_open rfl rfl
theorem dX5_open_73 : decode cX5_open 73 = .ok (.aload_n 1, 1) := dk_43 hN_cX5_open rfl rfl
theorem dX5_open_74 : decode cX5_open 74 = .ok (.iload_n 3, 1) := dk_29 hN_cX5_open rfl rfl
theorem dX5_open_75 : decode cX5_open 75 = .ok (.invokevirtual 35, 3) := dk_182 hN_cX5_open rfl rfl rfl
theorem dX5_open_78 : decode cX5_open 78 = .ok (.istore 4, 2) := dk_54 hN_cX5_open rfl rfl rfl
theorem dX5_open_80 : decode cX5_open 80 = .ok (.aload_n 0, 1) := dk_42 hN_cX5_open rfl rfl
theorem dX5_open_81 : decode cX5_open 81 = .ok (.getfield 15, 3) := dk_180 hN_cX5_open rfl rfl rfl
theorem dX5_open_84 : decode cX5_open 84 = .ok (.iload 4, 2) := dk_21 hN_cX5_open rfl rfl rfl
theorem dX5_open_86 : decode cX5_open 86 = .ok (.iconst 1, 1) := dk_4 hN_cX5_open rfl rfl
theorem dX5_open_87 : decode cX5_open 87 = .ok (.bastore, 1) := dk_84 hN_cX5_open rfl rfl
theorem dX5_open_88 : decode cX5_open 88 = .ok (.iload 4, 2) := dk_21 hN_cX5_open rfl rfl rfl
theorem dX5_open_90 : decode cX5_open 90 = .ok (.iload_n 2, 1) := dk_28 hN_cX5_open rfl rfl
theorem dX5_open_91 : decode cX5_open 91 = .ok (.if_icmp .ne 35, 3) := dk_160 hN_cX5_open rfl rfl rfl
theorem dX5_open_126 : decode cX5_open 126 = .ok (.iinc 3 1, 3) := dk_132 hN_cX5_open rfl rfl rfl rfl
theorem dX5_open_129 : decode cX5_open 129 = .ok (.goto (-67), 3) := dk_167 hN_cX5_open rfl rfl rfl
theorem dX5_open_94 : decode cX5_open 94 = .ok (.aload_n 0, 1) := dk_42 hN_cX5_open rfl rfl
theorem dX5_open_95 : decode cX5_open 95 = .ok (.dup, 1) := dk_89 hN_cX5_open rfl rfl
theorem dX5_open_96 : decode cX5_open 96 = .ok (.getfield 9, 3) := dk_180 hN_cX5_open rfl rfl rfl
theorem dX5_open_99 : decode cX5_open 99 = .ok (.iconst 1, 1) := dk_4 hN_cX5_open rfl rfl
theorem dX5_open_100 : decode cX5_open 100 = .ok (.iadd, 1) := dk_96 hN_cX5_open rfl rfl
theorem dX5_open_101 : decode cX5_open 101 = .ok (.putfield 9, 3) := dk_181 hN_cX5_open rfl rfl rfl
theorem dX5_open_104 : decode cX5_open 104 = .ok (.aload_n 0, 1) := dk_42 hN_cX5_open rfl rfl
theorem dX5_open_105 : decode cX5_open 105 = .ok (.dup, 1) := dk_89 hN_cX5_open rfl rfl
theorem dX5_open_106 : decode cX5_open 106 = .ok (.getfield 29, 3) := dk_180 hN_cX5_open rfl rfl rfl
theorem dX5_open_109 : decode cX5_open 109 = .ok (.iload_n 3, 1) := dk_29 hN_cX5_open rfl rfl
theorem dX5_open_110 : decode cX5_open 110 = .ok (.ior, 1) := dk_128 hN_cX5_open rfl rfl
theorem dX5_open_111 : decode cX5_open 111 = .ok (.putfield 29, 3) := dk_181 hN_cX5_open rfl rfl rfl
theorem dX5_open_114 : decode cX5_open 114 = .ok (.aload_n 0, 1) := dk_42 hN_cX5_open rfl rfl
theorem dX5_open_115 : decode cX5_open 115 = .ok (.dup, 1) := dk_89 hN_cX5_open rfl rfl
theorem dX5_open_116 : decode cX5_open 116 = .ok (.getfield 32, 3) := dk_180 hN_cX5_open rfl rfl rfl
theorem dX5_open_119 : decode cX5_open 119 = .ok (.iload_n 3, 1) := dk_29 hN_cX5_open rfl rfl
theorem dX5_open_120 : decode cX5_open 120 = .ok (.iconst (-1), 1) := dk_2 hN_cX5_open rfl rfl
theorem dX5_open_121 : decode cX5_open 121 = .ok (.ixor, 1) := dk_130 hN_cX5_open rfl rfl
theorem dX5_open_122 : decode cX5_open 122 = .ok (.ior, 1) := dk_128 hN_cX5_open rfl rfl
theorem dX5_open_123 : decode cX5_open 123 = .ok (.putfield 32, 3) := dk_181 hN_cX5_open rfl rfl rfl
theorem dX5_soLines_0 : decode cX5_soLines 0 = .ok (.iconst 0, 1) := dk_3 hN_cX5_soLines rfl rfl
theorem dX5_soLines_1 : decode cX5_soLines 1 = .ok (.istore_n 3, 1) := dk_62 hN_cX5_soLines rfl rfl
theorem dX5_soLines_2 : decode cX5_soLines 2 = .ok (.iconst 0, 1) := dk_3 hN_cX5_soLines rfl rfl
theorem dX5_soLines_3 : decode cX5_soLines 3 = .ok (.istore 4, 2) := dk_54 hN_cX5_soLines rfl rfl rfl
theorem dX5_soLines_5 : decode cX5_soLines 5 = .ok (.iload 4, 2) := dk_21 hN_cX5_soLines rfl rfl rfl
theorem dX5_soLines_7 : decode cX5_soLines 7 = .ok (.aload_n 0, 1) := dk_42 hN_cX5_soLines rfl rfl
theorem dX5_soLines_8 : decode cX5_soLines 8 = .ok (.getfield 28, 3) := dk_180 hN_cX5_soLines rfl rfl rfl
theorem dX5_soLines_11 : decode cX5_soLines 11 = .ok (.if_icmp .ge 40, 3) := dk_162 hN_cX5_soLines rfl rfl rfl
theorem dX5_soLines_51 : decode cX5_soLines 51 = .ok (.iload_n 3, 1) := dk_29 hN_cX5_soLines rfl rfl
theorem dX5_soLines_52 : decode cX5_soLines 52 = .ok (.ireturn, 1) := dk_172 hN_cX5_soLines rfl rfl
theorem dX5_soLines_14 : decode cX5_soLines 14 = .ok (.iload_n 2, 1) := dk_28 hN_cX5_soLines rfl rfl
theorem dX5_soLines_15 : decode cX5_soLines 15 = .ok (.aload_n 1, 1) := dk_43 hN_cX5_soLines rfl rfl
theorem dX5_soLines_16 : decode cX5_soLines 16 = .ok (.getfield 42, 3) := dk_180 hN_cX5_soLines rfl rfl rfl
theorem dX5_soLines_19 : decode cX5_soLines 19 = .ok (.iload 4, 2) := dk_21 hN_cX5_soLines rfl rfl rfl
theorem dX5_soLines_21 : decode cX5_soLines 21 = .ok (.iaload, 1) := dk_46 hN_cX5_soLines rfl rfl
theorem dX5_soLines_22 : decode cX5_soLines 22 = .ok (.iand, 1) := dk_126 hN_cX5_soLines rfl rfl
theorem dX5_soLines_23 : decode cX5_soLines 23 = .ok (.invokestatic 46, 3) := dk_184 hN_cX5_soLines rfl rfl rfl
theorem dX5_soLines_26 : decode cX5_soLines 26 = .ok (.iconst 2, 1) := dk_5 hN_cX5_soLines rfl rfl
theorem dX5_soLines_27 : decode cX5_soLines 27 = .ok (.irem, 1) := dk_112 hN_cX5_soLines rfl rfl
theorem dX5_soLines_28 : decode cX5_soLines 28 = .ok (.aload_n 1, 1) := dk_43 hN_cX5_soLines rfl rfl
theorem dX5_soLines_29 : decode cX5_soLines 29 = .ok (.getfield 52, 3) := dk_180 hN_cX5_soLines rfl rfl rfl
theorem dX5_soLines_32 : decode cX5_soLines 32 = .ok (.iload 4, 2) := dk_21 hN_cX5_soLines rfl rfl rfl
theorem dX5_soLines_34 : decode cX5_soLines 34 = .ok (.iaload, 1) := dk_46 hN_cX5_soLines rfl rfl
theorem dX5_soLines_35 : decode cX5_soLines 35 = .ok (.if_icmp .ne 10, 3) := dk_160 hN_cX5_soLines rfl rfl rfl
theorem dX5_soLines_45 : decode cX5_soLines 45 = .ok (.iinc 4 1, 3) := dk_132 hN_cX5_soLines rfl rfl rfl rfl
theorem dX5_soLines_48 : decode cX5_soLines 48 = .ok (.goto (-43), 3) := dk_167 hN_cX5_soLines rfl rfl rfl
theorem dX5_soLines_38 : decode cX5_soLines 38 = .ok (.iload_n 3, 1) := dk_29 hN_cX5_soLines rfl rfl
theorem dX5_soLines_39 : decode cX5_soLines 39 = .ok (.iconst 1, 1) := dk_4 hN_cX5_soLines rfl rfl
theorem dX5_soLines_40 : decode cX5_soLines 40 = .ok (.iload 4, 2) := dk_21 hN_cX5_soLines rfl rfl rfl
theorem dX5_soLines_42 : decode cX5_soLines 42 = .ok (.ishl, 1) := dk_120 hN_cX5_soLines rfl rfl
theorem dX5_soLines_43 : decode cX5_soLines 43 = .ok (.ior, 1) := dk_128 hN_cX5_soLines rfl rfl
theorem dX5_soLines_44 : decode cX5_soLines 44 = .ok (.istore_n 3, 1) := dk_62 hN_cX5_soLines rfl rfl
theorem dX5_spread_0 : decode cX5_spread 0 = .ok (.iconst 1, 1) := dk_4 hN_cX5_spread rfl rfl
theorem dX5_spread_1 : decode cX5_spread 1 = .ok (.aload_n 0, 1) := dk_42 hN_cX5_spread rfl rfl
theorem dX5_spread_2 : decode cX5_spread 2 = .ok (.getfield 28, 3) := dk_180 hN_cX5_spread rfl rfl rfl
theorem dX5_spread_5 : decode cX5_spread 5 = .ok (.ishl, 1) := dk_120 hN_cX5_spread rfl rfl
theorem dX5_spread_6 : decode cX5_spread 6 = .ok (.iconst 1, 1) := dk_4 hN_cX5_spread rfl rfl
theorem dX5_spread_7 : decode cX5_spread 7 = .ok (.isub, 1) := dk_100 hN_cX5_spread rfl rfl
theorem dX5_spread_8 : decode cX5_spread 8 = .ok (.istore_n 1, 1) := dk_60 hN_cX5_spread rfl rfl
theorem dX5_spread_9 : decode cX5_spread 9 = .ok (.iload_n 1, 1) := dk_27 hN_cX5_spread rfl rfl
theorem dX5_spread_10 : decode cX5_spread 10 = .ok (.ifCond .le 47, 3) := dk_158 hN_cX5_spread rfl rfl rfl
theorem dX5_spread_57 : decode cX5_spread 57 = .ok (.return_, 1) := dk_177 hN_cX5_spread rfl rfl
theorem dX5_spread_13 : decode cX5_spread 13 = .ok (.iconst 0, 1) := dk_3 hN_cX5_spread rfl rfl
theorem dX5_spread_14 : decode cX5_spread 14 = .ok (.istore_n 2, 1) := dk_61 hN_cX5_spread rfl rfl
theorem dX5_spread_15 : decode cX5_spread 15 = .ok (.aload_n 0, 1) := dk_42 hN_cX5_spread rfl rfl
theorem dX5_spread_16 : decode cX5_spread 16 = .ok (.getfield 15, 3) := dk_180 hN_cX5_spread rfl rfl rfl
theorem dX5_spread_19 : decode cX5_spread 19 = .ok (.iload_n 1, 1) := dk_27 hN_cX5_spread rfl rfl
theorem dX5_spread_20 : decode cX5_spread 20 = .ok (.baload, 1) := dk_51 hN_cX5_spread rfl rfl
theorem dX5_spread_21 : decode cX5_spread 21 = .ok (.ifCond .eq 30, 3) := dk_153 hN_cX5_spread rfl rfl rfl
theorem dX5_spread_51 : decode cX5_spread 51 = .ok (.iinc 1 (-1), 3) := dk_132 hN_cX5_spread rfl rfl rfl rfl
theorem dX5_spread_54 : decode cX5_spread 54 = .ok (.goto (-45), 3) := dk_167 hN_cX5_spread rfl rfl rfl
theorem dX5_spread_24 : decode cX5_spread 24 = .ok (.iload_n 2, 1) := dk_28 hN_cX5_spread rfl rfl
theorem dX5_spread_25 : decode cX5_spread 25 = .ok (.aload_n 0, 1) := dk_42 hN_cX5_spread rfl rfl
theorem dX5_spread_26 : decode cX5_spread 26 = .ok (.getfield 28, 3) := dk_180 hN_cX5_spread rfl rfl rfl
theorem dX5_spread_29 : decode cX5_spread 29 = .ok (.if_icmp .ge 22, 3) := dk_162 hN_cX5_spread rfl rfl rfl
theorem dX5_spread_32 : decode cX5_spread 32 = .ok (.aload_n 0, 1) := dk_42 hN_cX5_spread rfl rfl
theorem dX5_spread_33 : decode cX5_spread 33 = .ok (.getfield 15, 3) := dk_180 hN_cX5_spread rfl rfl rfl
theorem dX5_spread_36 : decode cX5_spread 36 = .ok (.iload_n 1, 1) := dk_27 hN_cX5_spread rfl rfl
theorem dX5_spread_37 : decode cX5_spread 37 = .ok (.iconst 1, 1) := dk_4 hN_cX5_spread rfl rfl
theorem dX5_spread_38 : decode cX5_spread 38 = .ok (.iload_n 2, 1) := dk_28 hN_cX5_spread rfl rfl
theorem dX5_spread_39 : decode cX5_spread 39 = .ok (.ishl, 1) := dk_120 hN_cX5_spread rfl rfl
theorem dX5_spread_40 : decode cX5_spread 40 = .ok (.iconst (-1), 1) := dk_2 hN_cX5_spread rfl rfl
theorem dX5_spread_41 : decode cX5_spread 41 = .ok (.ixor, 1) := dk_130 hN_cX5_spread rfl rfl
theorem dX5_spread_42 : decode cX5_spread 42 = .ok (.iand, 1) := dk_126 hN_cX5_spread rfl rfl
theorem dX5_spread_43 : decode cX5_spread 43 = .ok (.iconst 1, 1) := dk_4 hN_cX5_spread rfl rfl
theorem dX5_spread_44 : decode cX5_spread 44 = .ok (.bastore, 1) := dk_84 hN_cX5_spread rfl rfl
theorem dX5_spread_45 : decode cX5_spread 45 = .ok (.iinc 2 1, 3) := dk_132 hN_cX5_spread rfl rfl rfl rfl
theorem dX5_spread_48 : decode cX5_spread 48 = .ok (.goto (-33), 3) := dk_167 hN_cX5_spread rfl rfl rfl
theorem dX5_holds_0 : decode cX5_holds 0 = .ok (.iload_n 1, 1) := dk_27 hN_cX5_holds rfl rfl
theorem dX5_holds_1 : decode cX5_holds 1 = .ok (.ifCond .lt 26, 3) := dk_155 hN_cX5_holds rfl rfl rfl
theorem dX5_holds_27 : decode cX5_holds 27 = .ok (.iconst 0, 1) := dk_3 hN_cX5_holds rfl rfl
theorem dX5_holds_28 : decode cX5_holds 28 = .ok (.ireturn, 1) := dk_172 hN_cX5_holds rfl rfl
theorem dX5_holds_4 : decode cX5_holds 4 = .ok (.iload_n 1, 1) := dk_27 hN_cX5_holds rfl rfl
theorem dX5_holds_5 : decode cX5_holds 5 = .ok (.iconst 1, 1) := dk_4 hN_cX5_holds rfl rfl
theorem dX5_holds_6 : decode cX5_holds 6 = .ok (.aload_n 0, 1) := dk_42 hN_cX5_holds rfl rfl
theorem dX5_holds_7 : decode cX5_holds 7 = .ok (.getfield 28, 3) := dk_180 hN_cX5_holds rfl rfl rfl
theorem dX5_holds_10 : decode cX5_holds 10 = .ok (.ishl, 1) := dk_120 hN_cX5_holds rfl rfl
theorem dX5_holds_11 : decode cX5_holds 11 = .ok (.if_icmp .ge 16, 3) := dk_162 hN_cX5_holds rfl rfl rfl
theorem dX5_holds_14 : decode cX5_holds 14 = .ok (.aload_n 0, 1) := dk_42 hN_cX5_holds rfl rfl
theorem dX5_holds_15 : decode cX5_holds 15 = .ok (.getfield 15, 3) := dk_180 hN_cX5_holds rfl rfl rfl
theorem dX5_holds_18 : decode cX5_holds 18 = .ok (.iload_n 1, 1) := dk_27 hN_cX5_holds rfl rfl
theorem dX5_holds_19 : decode cX5_holds 19 = .ok (.baload, 1) := dk_51 hN_cX5_holds rfl rfl
theorem dX5_holds_20 : decode cX5_holds 20 = .ok (.ifCond .eq 7, 3) := dk_153 hN_cX5_holds rfl rfl rfl
theorem dX5_holds_23 : decode cX5_holds 23 = .ok (.iconst 1, 1) := dk_4 hN_cX5_holds rfl rfl
theorem dX5_holds_24 : decode cX5_holds 24 = .ok (.goto 4, 3) := dk_167 hN_cX5_holds rfl rfl rfl
theorem dX5_valueOf_0 : decode cX5_valueOf 0 = .ok (.aload_n 0, 1) := dk_42 hN_cX5_valueOf rfl rfl
theorem dX5_valueOf_1 : decode cX5_valueOf 1 = .ok (.getfield 29, 3) := dk_180 hN_cX5_valueOf rfl rfl rfl
theorem dX5_valueOf_4 : decode cX5_valueOf 4 = .ok (.iload_n 1, 1) := dk_27 hN_cX5_valueOf rfl rfl
theorem dX5_valueOf_5 : decode cX5_valueOf 5 = .ok (.ishr, 1) := dk_122 hN_cX5_valueOf rfl rfl
theorem dX5_valueOf_6 : decode cX5_valueOf 6 = .ok (.iconst 1, 1) := dk_4 hN_cX5_valueOf rfl rfl
theorem dX5_valueOf_7 : decode cX5_valueOf 7 = .ok (.iand, 1) := dk_126 hN_cX5_valueOf rfl rfl
theorem dX5_valueOf_8 : decode cX5_valueOf 8 = .ok (.ifCond .eq 7, 3) := dk_153 hN_cX5_valueOf rfl rfl rfl
theorem dX5_valueOf_15 : decode cX5_valueOf 15 = .ok (.iconst 0, 1) := dk_3 hN_cX5_valueOf rfl rfl
theorem dX5_valueOf_16 : decode cX5_valueOf 16 = .ok (.istore_n 2, 1) := dk_61 hN_cX5_valueOf rfl rfl
theorem dX5_valueOf_17 : decode cX5_valueOf 17 = .ok (.aload_n 0, 1) := dk_42 hN_cX5_valueOf rfl rfl
theorem dX5_valueOf_18 : decode cX5_valueOf 18 = .ok (.getfield 32, 3) := dk_180 hN_cX5_valueOf rfl rfl rfl
theorem dX5_valueOf_21 : decode cX5_valueOf 21 = .ok (.iload_n 1, 1) := dk_27 hN_cX5_valueOf rfl rfl
theorem dX5_valueOf_22 : decode cX5_valueOf 22 = .ok (.ishr, 1) := dk_122 hN_cX5_valueOf rfl rfl
theorem dX5_valueOf_23 : decode cX5_valueOf 23 = .ok (.iconst 1, 1) := dk_4 hN_cX5_valueOf rfl rfl
theorem dX5_valueOf_24 : decode cX5_valueOf 24 = .ok (.iand, 1) := dk_126 hN_cX5_valueOf rfl rfl
theorem dX5_valueOf_25 : decode cX5_valueOf 25 = .ok (.ifCond .eq 7, 3) := dk_153 hN_cX5_valueOf rfl rfl rfl
theorem dX5_valueOf_32 : decode cX5_valueOf 32 = .ok (.iconst 0, 1) := dk_3 hN_cX5_valueOf rfl rfl
theorem dX5_valueOf_33 : decode cX5_valueOf 33 = .ok (.istore_n 3, 1) := dk_62 hN_cX5_valueOf rfl rfl
theorem dX5_valueOf_34 : decode cX5_valueOf 34 = .ok (.iload_n 2, 1) := dk_28 hN_cX5_valueOf rfl rfl
theorem dX5_valueOf_35 : decode cX5_valueOf 35 = .ok (.ifCond .eq 10, 3) := dk_153 hN_cX5_valueOf rfl rfl rfl
theorem dX5_valueOf_45 : decode cX5_valueOf 45 = .ok (.iload_n 2, 1) := dk_28 hN_cX5_valueOf rfl rfl
theorem dX5_valueOf_46 : decode cX5_valueOf 46 = .ok (.ifCond .eq 7, 3) := dk_153 hN_cX5_valueOf rfl rfl rfl
theorem dX5_valueOf_53 : decode cX5_valueOf 53 = .ok (.iconst 0, 1) := dk_3 hN_cX5_valueOf rfl rfl
theorem dX5_valueOf_54 : decode cX5_valueOf 54 = .ok (.ireturn, 1) := dk_172 hN_cX5_valueOf rfl rfl
theorem dX5_valueOf_28 : decode cX5_valueOf 28 = .ok (.iconst 1, 1) := dk_4 hN_cX5_valueOf rfl rfl
theorem dX5_valueOf_29 : decode cX5_valueOf 29 = .ok (.goto 4, 3) := dk_167 hN_cX5_valueOf rfl rfl rfl
theorem dX5_valueOf_11 : decode cX5_valueOf 11 = .ok (.iconst 1, 1) := dk_4 hN_cX5_valueOf rfl rfl
theorem dX5_valueOf_12 : decode cX5_valueOf 12 = .ok (.goto 4, 3) := dk_167 hN_cX5_valueOf rfl rfl rfl
theorem dX5_valueOf_38 : decode cX5_valueOf 38 = .ok (.iload_n 3, 1) := dk_29 hN_cX5_valueOf rfl rfl
theorem dX5_valueOf_39 : decode cX5_valueOf 39 = .ok (.ifCond .eq 6, 3) := dk_153 hN_cX5_valueOf rfl rfl rfl
theorem dX5_valueOf_49 : decode cX5_valueOf 49 = .ok (.iconst 1, 1) := dk_4 hN_cX5_valueOf rfl rfl
theorem dX5_valueOf_50 : decode cX5_valueOf 50 = .ok (.goto 4, 3) := dk_167 hN_cX5_valueOf rfl rfl rfl
theorem dX5_valueOf_42 : decode cX5_valueOf 42 = .ok (.bipush (-2), 2) := dk_16 hN_cX5_valueOf rfl rfl rfl
theorem dX5_valueOf_44 : decode cX5_valueOf 44 = .ok (.ireturn, 1) := dk_172 hN_cX5_valueOf rfl rfl
theorem dX5_leastBroken_0 : decode cX5_leastBroken 0 = .ok (.bipush (-2), 2) := dk_16 hN_cX5_leastBroken rfl rfl rfl
theorem dX5_leastBroken_2 : decode cX5_leastBroken 2 = .ok (.istore_n 1, 1) := dk_60 hN_cX5_leastBroken rfl rfl
theorem dX5_leastBroken_3 : decode cX5_leastBroken 3 = .ok (.iconst 0, 1) := dk_3 hN_cX5_leastBroken rfl rfl
theorem dX5_leastBroken_4 : decode cX5_leastBroken 4 = .ok (.istore_n 2, 1) := dk_61 hN_cX5_leastBroken rfl rfl
theorem dX5_leastBroken_5 : decode cX5_leastBroken 5 = .ok (.iload_n 2, 1) := dk_28 hN_cX5_leastBroken rfl rfl
theorem dX5_leastBroken_6 : decode cX5_leastBroken 6 = .ok (.iconst 1, 1) := dk_4 hN_cX5_leastBroken rfl rfl
theorem dX5_leastBroken_7 : decode cX5_leastBroken 7 = .ok (.aload_n 0, 1) := dk_42 hN_cX5_leastBroken rfl rfl
theorem dX5_leastBroken_8 : decode cX5_leastBroken 8 = .ok (.getfield 28, 3) := dk_180 hN_cX5_leastBroken rfl rfl rfl
theorem dX5_leastBroken_11 : decode cX5_leastBroken 11 = .ok (.ishl, 1) := dk_120 hN_cX5_leastBroken rfl rfl
theorem dX5_leastBroken_12 : decode cX5_leastBroken 12 = .ok (.if_icmp .ge 35, 3) := dk_162 hN_cX5_leastBroken rfl rfl rfl
theorem dX5_leastBroken_47 : decode cX5_leastBroken 47 = .ok (.iload_n 1, 1) := dk_27 hN_cX5_leastBroken rfl rfl
theorem dX5_leastBroken_48 : decode cX5_leastBroken 48 = .ok (.ireturn, 1) := dk_172 hN_cX5_leastBroken rfl rfl
theorem dX5_leastBroken_15 : decode cX5_leastBroken 15 = .ok (.aload_n 0, 1) := dk_42 hN_cX5_leastBroken rfl rfl
theorem dX5_leastBroken_16 : decode cX5_leastBroken 16 = .ok (.getfield 15, 3) := dk_180 hN_cX5_leastBroken rfl rfl rfl
theorem dX5_leastBroken_19 : decode cX5_leastBroken 19 = .ok (.iload_n 2, 1) := dk_28 hN_cX5_leastBroken rfl rfl
theorem dX5_leastBroken_20 : decode cX5_leastBroken 20 = .ok (.baload, 1) := dk_51 hN_cX5_leastBroken rfl rfl
theorem dX5_leastBroken_21 : decode cX5_leastBroken 21 = .ok (.ifCond .ne 20, 3) := dk_154 hN_cX5_leastBroken rfl rfl rfl
theorem dX5_leastBroken_41 : decode cX5_leastBroken 41 = .ok (.iinc 2 1, 3) := dk_132 hN_cX5_leastBroken rfl rfl rfl rfl
theorem dX5_leastBroken_44 : decode cX5_leastBroken 44 = .ok (.goto (-39), 3) := dk_167 hN_cX5_leastBroken rfl rfl rfl
theorem dX5_leastBroken_24 : decode cX5_leastBroken 24 = .ok (.iload_n 1, 1) := dk_27 hN_cX5_leastBroken rfl rfl
theorem dX5_leastBroken_25 : decode cX5_leastBroken 25 = .ok (.ifCond .lt 14, 3) := dk_155 hN_cX5_leastBroken rfl rfl rfl
theorem dX5_leastBroken_39 : decode cX5_leastBroken 39 = .ok (.iload_n 2, 1) := dk_28 hN_cX5_leastBroken rfl rfl
theorem dX5_leastBroken_40 : decode cX5_leastBroken 40 = .ok (.istore_n 1, 1) := dk_60 hN_cX5_leastBroken rfl rfl
theorem dX5_leastBroken_28 : decode cX5_leastBroken 28 = .ok (.iload_n 2, 1) := dk_28 hN_cX5_leastBroken rfl rfl
theorem dX5_leastBroken_29 : decode cX5_leastBroken 29 = .ok (.invokestatic 46, 3) := dk_184 hN_cX5_leastBroken rfl rfl rfl
theorem dX5_leastBroken_32 : decode cX5_leastBroken 32 = .ok (.iload_n 1, 1) := dk_27 hN_cX5_leastBroken rfl rfl
theorem dX5_leastBroken_33 : decode cX5_leastBroken 33 = .ok (.invokestatic 46, 3) := dk_184 hN_cX5_leastBroken rfl rfl rfl
theorem dX5_leastBroken_36 : decode cX5_leastBroken 36 = .ok (.if_icmp .ge 5, 3) := dk_162 hN_cX5_leastBroken rfl rfl rfl
theorem dX5_mostHeld_0 : decode cX5_mostHeld 0 = .ok (.iconst 0, 1) := dk_3 hN_cX5_mostHeld rfl rfl
theorem dX5_mostHeld_1 : decode cX5_mostHeld 1 = .ok (.istore_n 1, 1) := dk_60 hN_cX5_mostHeld rfl rfl
theorem dX5_mostHeld_2 : decode cX5_mostHeld 2 = .ok (.iconst 0, 1) := dk_3 hN_cX5_mostHeld rfl rfl
theorem dX5_mostHeld_3 : decode cX5_mostHeld 3 = .ok (.istore_n 2, 1) := dk_61 hN_cX5_mostHeld rfl rfl
theorem dX5_mostHeld_4 : decode cX5_mostHeld 4 = .ok (.iload_n 2, 1) := dk_28 hN_cX5_mostHeld rfl rfl
theorem dX5_mostHeld_5 : decode cX5_mostHeld 5 = .ok (.iconst 1, 1) := dk_4 hN_cX5_mostHeld rfl rfl
theorem dX5_mostHeld_6 : decode cX5_mostHeld 6 = .ok (.aload_n 0, 1) := dk_42 hN_cX5_mostHeld rfl rfl
theorem dX5_mostHeld_7 : decode cX5_mostHeld 7 = .ok (.getfield 28, 3) := dk_180 hN_cX5_mostHeld rfl rfl rfl
theorem dX5_mostHeld_10 : decode cX5_mostHeld 10 = .ok (.ishl, 1) := dk_120 hN_cX5_mostHeld rfl rfl
theorem dX5_mostHeld_11 : decode cX5_mostHeld 11 = .ok (.if_icmp .ge 27, 3) := dk_162 hN_cX5_mostHeld rfl rfl rfl
theorem dX5_mostHeld_38 : decode cX5_mostHeld 38 = .ok (.iload_n 1, 1) := dk_27 hN_cX5_mostHeld rfl rfl
theorem dX5_mostHeld_39 : decode cX5_mostHeld 39 = .ok (.ireturn, 1) := dk_172 hN_cX5_mostHeld rfl rfl
theorem dX5_mostHeld_14 : decode cX5_mostHeld 14 = .ok (.aload_n 0, 1) := dk_42 hN_cX5_mostHeld rfl rfl
theorem dX5_mostHeld_15 : decode cX5_mostHeld 15 = .ok (.getfield 15, 3) := dk_180 hN_cX5_mostHeld rfl rfl rfl
theorem dX5_mostHeld_18 : decode cX5_mostHeld 18 = .ok (.iload_n 2, 1) := dk_28 hN_cX5_mostHeld rfl rfl
theorem dX5_mostHeld_19 : decode cX5_mostHeld 19 = .ok (.baload, 1) := dk_51 hN_cX5_mostHeld rfl rfl
theorem dX5_mostHeld_20 : decode cX5_mostHeld 20 = .ok (.ifCond .eq 12, 3) := dk_153 hN_cX5_mostHeld rfl rfl rfl
theorem dX5_mostHeld_32 : decode cX5_mostHeld 32 = .ok (.iinc 2 1, 3) := dk_132 hN_cX5_mostHeld rfl rfl rfl rfl
theorem dX5_mostHeld_35 : decode cX5_mostHeld 35 = .ok (.goto (-31), 3) := dk_167 hN_cX5_mostHeld rfl rfl rfl
theorem dX5_mostHeld_23 : decode cX5_mostHeld 23 = .ok (.iload_n 1, 1) := dk_27 hN_cX5_mostHeld rfl rfl
theorem dX5_mostHeld_24 : decode cX5_mostHeld 24 = .ok (.iload_n 2, 1) := dk_28 hN_cX5_mostHeld rfl rfl
theorem dX5_mostHeld_25 : decode cX5_mostHeld 25 = .ok (.invokestatic 46, 3) := dk_184 hN_cX5_mostHeld rfl rfl rfl
theorem dX5_mostHeld_28 : decode cX5_mostHeld 28 = .ok (.invokestatic 55, 3) := dk_184 hN_cX5_mostHeld rfl rfl rfl
theorem dX5_mostHeld_31 : decode cX5_mostHeld 31 = .ok (.istore_n 1, 1) := dk_60 hN_cX5_mostHeld rfl rfl
theorem dX3_open_0 : decode cX3_open 0 = .ok (.aload_n 0, 1) := dk_42 hN_cX3_open rfl rfl
theorem dX3_open_1 : decode cX3_open 1 = .ok (.aload_n 1, 1) := dk_43 hN_cX3_open rfl rfl
theorem dX3_open_2 : decode cX3_open 2 = .ok (.getfield 18, 3) := dk_180 hN_cX3_open rfl rfl rfl
theorem dX3_open_5 : decode cX3_open 5 = .ok (.putfield 24, 3) := dk_181 hN_cX3_open rfl rfl rfl
theorem dX3_open_8 : decode cX3_open 8 = .ok (.aload_n 0, 1) := dk_42 hN_cX3_open rfl rfl
theorem dX3_open_9 : decode cX3_open 9 = .ok (.iconst 0, 1) := dk_3 hN_cX3_open rfl rfl
theorem dX3_open_10 : decode cX3_open 10 = .ok (.putfield 25, 3) := dk_181 hN_cX3_open rfl rfl rfl
theorem dX3_open_13 : decode cX3_open 13 = .ok (.iconst 0, 1) := dk_3 hN_cX3_open rfl rfl
theorem dX3_open_14 : decode cX3_open 14 = .ok (.istore_n 2, 1) := dk_61 hN_cX3_open rfl rfl
theorem dX3_open_15 : decode cX3_open 15 = .ok (.iload_n 2, 1) := dk_28 hN_cX3_open rfl rfl
theorem dX3_open_16 : decode cX3_open 16 = .ok (.aload_n 0, 1) := dk_42 hN_cX3_open rfl rfl
theorem dX3_open_17 : decode cX3_open 17 = .ok (.getfield 24, 3) := dk_180 hN_cX3_open rfl rfl rfl
theorem dX3_open_20 : decode cX3_open 20 = .ok (.if_icmp .ge 61, 3) := dk_162 hN_cX3_open rfl rfl rfl
theorem dX3_open_81 : decode cX3_open 81 = .ok (.aload_n 0, 1) := dk_42 hN_cX3_open rfl rfl
theorem dX3_open_82 : decode cX3_open 82 = .ok (.invokevirtual 36, 3) := dk_182 hN_cX3_open rfl rfl rfl
theorem dX3_open_85 : decode cX3_open 85 = .ok (.return_, 1) := dk_177 hN_cX3_open rfl rfl
theorem dX3_open_23 : decode cX3_open 23 = .ok (.aload_n 0, 1) := dk_42 hN_cX3_open rfl rfl
theorem dX3_open_24 : decode cX3_open 24 = .ok (.getfield 9, 3) := dk_180 hN_cX3_open rfl rfl rfl
theorem dX3_open_27 : decode cX3_open 27 = .ok (.iload_n 2, 1) := dk_28 hN_cX3_open rfl rfl
theorem dX3_open_28 : decode cX3_open 28 = .ok (.iconst 0, 1) := dk_3 hN_cX3_open rfl rfl
theorem dX3_open_29 : decode cX3_open 29 = .ok (.iastore, 1) := dk_79 hN_cX3_open rfl rfl
theorem dX3_open_30 : decode cX3_open 30 = .ok (.iconst 0, 1) := dk_3 hN_cX3_open rfl rfl
theorem dX3_open_31 : decode cX3_open 31 = .ok (.istore_n 3, 1) := dk_62 hN_cX3_open rfl rfl
theorem dX3_open_32 : decode cX3_open 32 = .ok (.iload_n 3, 1) := dk_29 hN_cX3_open rfl rfl
theorem dX3_open_33 : decode cX3_open 33 = .ok (.aload_n 0, 1) := dk_42 hN_cX3_open rfl rfl
theorem dX3_open_34 : decode cX3_open 34 = .ok (.getfield 24, 3) := dk_180 hN_cX3_open rfl rfl rfl
theorem dX3_open_37 : decode cX3_open 37 = .ok (.if_icmp .ge 38, 3) := dk_162 hN_cX3_open rfl rfl rfl
theorem dX3_open_75 : decode cX3_open 75 = .ok (.iinc 2 1, 3) := dk_132 hN_cX3_open rfl rfl rfl rfl
theorem dX3_open_78 : decode cX3_open 78 = .ok (.goto (-63), 3) := dk_167 hN_cX3_open rfl rfl rfl
theorem dX3_open_40 : decode cX3_open 40 = .ok (.iload_n 3, 1) := dk_29 hN_cX3_open rfl rfl
theorem dX3_open_41 : decode cX3_open 41 = .ok (.iload_n 2, 1) := dk_28 hN_cX3_open rfl rfl
theorem dX3_open_42 : decode cX3_open 42 = .ok (.if_icmp .eq 27, 3) := dk_159 hN_cX3_open rfl rfl rfl
theorem dX3_open_69 : decode cX3_open 69 = .ok (.iinc 3 1, 3) := dk_132 hN_cX3_open rfl rfl rfl rfl
theorem dX3_open_72 : decode cX3_open 72 = .ok (.goto (-40), 3) := dk_167 hN_cX3_open rfl rfl rfl
theorem dX3_open_45 : decode cX3_open 45 = .ok (.aload_n 1, 1) := dk_43 hN_cX3_open rfl rfl
theorem dX3_open_46 : decode cX3_open 46 = .ok (.getfield 29, 3) := dk_180 hN_cX3_open rfl rfl rfl
theorem dX3_open_49 : decode cX3_open 49 = .ok (.iload_n 2, 1) := dk_28 hN_cX3_open rfl rfl
theorem dX3_open_50 : decode cX3_open 50 = .ok (.iload_n 3, 1) := dk_29 hN_cX3_open rfl rfl
theorem dX3_open_51 : decode cX3_open 51 = .ok (.invokestatic 32, 3) := dk_184 hN_cX3_open rfl rfl rfl
theorem dX3_open_54 : decode cX3_open 54 = .ok (.ifCond .ne 15, 3) := dk_154 hN_cX3_open rfl rfl rfl
theorem dX3_open_57 : decode cX3_open 57 = .ok (.aload_n 0, 1) := dk_42 hN_cX3_open rfl rfl
theorem dX3_open_58 : decode cX3_open 58 = .ok (.getfield 9, 3) := dk_180 hN_cX3_open rfl rfl rfl
theorem dX3_open_61 : decode cX3_open 61 = .ok (.iload_n 2, 1) := dk_28 hN_cX3_open rfl rfl
theorem dX3_open_62 : decode cX3_open 62 = .ok (.dup2, 1) := dk_92 hN_cX3_open rfl rfl
theorem dX3_open_63 : decode cX3_open 63 = .ok (.iaload, 1) := dk_46 hN_cX3_open rfl rfl
theorem dX3_open_64 : decode cX3_open 64 = .ok (.iconst 1, 1) := dk_4 hN_cX3_open rfl rfl
theorem dX3_open_65 : decode cX3_open 65 = .ok (.iload_n 3, 1) := dk_29 hN_cX3_open rfl rfl
theorem dX3_open_66 : decode cX3_open 66 = .ok (.ishl, 1) := dk_120 hN_cX3_open rfl rfl
theorem dX3_open_67 : decode cX3_open 67 = .ok (.ior, 1) := dk_128 hN_cX3_open rfl rfl
theorem dX3_open_68 : decode cX3_open 68 = .ok (.iastore, 1) := dk_79 hN_cX3_open rfl rfl
theorem dX3_product_0 : decode cX3_product 0 = .ok (.iconst 0, 1) := dk_3 hN_cX3_product rfl rfl
theorem dX3_product_1 : decode cX3_product 1 = .ok (.istore_n 3, 1) := dk_62 hN_cX3_product rfl rfl
theorem dX3_product_2 : decode cX3_product 2 = .ok (.iconst 0, 1) := dk_3 hN_cX3_product rfl rfl
theorem dX3_product_3 : decode cX3_product 3 = .ok (.istore 4, 2) := dk_54 hN_cX3_product rfl rfl rfl
theorem dX3_product_5 : decode cX3_product 5 = .ok (.iload 4, 2) := dk_21 hN_cX3_product rfl rfl rfl
theorem dX3_product_7 : decode cX3_product 7 = .ok (.iconst 4, 1) := dk_7 hN_cX3_product rfl rfl
theorem dX3_product_8 : decode cX3_product 8 = .ok (.if_icmp .ge 29, 3) := dk_162 hN_cX3_product rfl rfl rfl
theorem dX3_product_37 : decode cX3_product 37 = .ok (.iload_n 3, 1) := dk_29 hN_cX3_product rfl rfl
theorem dX3_product_38 : decode cX3_product 38 = .ok (.ireturn, 1) := dk_172 hN_cX3_product rfl rfl
theorem dX3_product_11 : decode cX3_product 11 = .ok (.iload_n 3, 1) := dk_29 hN_cX3_product rfl rfl
theorem dX3_product_12 : decode cX3_product 12 = .ok (.aload_n 0, 1) := dk_42 hN_cX3_product rfl rfl
theorem dX3_product_13 : decode cX3_product 13 = .ok (.iconst 4, 1) := dk_7 hN_cX3_product rfl rfl
theorem dX3_product_14 : decode cX3_product 14 = .ok (.iload_n 1, 1) := dk_27 hN_cX3_product rfl rfl
theorem dX3_product_15 : decode cX3_product 15 = .ok (.imul, 1) := dk_104 hN_cX3_product rfl rfl
theorem dX3_product_16 : decode cX3_product 16 = .ok (.iload 4, 2) := dk_21 hN_cX3_product rfl rfl rfl
theorem dX3_product_18 : decode cX3_product 18 = .ok (.iadd, 1) := dk_96 hN_cX3_product rfl rfl
theorem dX3_product_19 : decode cX3_product 19 = .ok (.iaload, 1) := dk_46 hN_cX3_product rfl rfl
theorem dX3_product_20 : decode cX3_product 20 = .ok (.aload_n 0, 1) := dk_42 hN_cX3_product rfl rfl
theorem dX3_product_21 : decode cX3_product 21 = .ok (.iconst 4, 1) := dk_7 hN_cX3_product rfl rfl
theorem dX3_product_22 : decode cX3_product 22 = .ok (.iload_n 2, 1) := dk_28 hN_cX3_product rfl rfl
theorem dX3_product_23 : decode cX3_product 23 = .ok (.imul, 1) := dk_104 hN_cX3_product rfl rfl
theorem dX3_product_24 : decode cX3_product 24 = .ok (.iload 4, 2) := dk_21 hN_cX3_product rfl rfl rfl
theorem dX3_product_26 : decode cX3_product 26 = .ok (.iadd, 1) := dk_96 hN_cX3_product rfl rfl
theorem dX3_product_27 : decode cX3_product 27 = .ok (.iaload, 1) := dk_46 hN_cX3_product rfl rfl
theorem dX3_product_28 : decode cX3_product 28 = .ok (.imul, 1) := dk_104 hN_cX3_product rfl rfl
theorem dX3_product_29 : decode cX3_product 29 = .ok (.iadd, 1) := dk_96 hN_cX3_product rfl rfl
theorem dX3_product_30 : decode cX3_product 30 = .ok (.istore_n 3, 1) := dk_62 hN_cX3_product rfl rfl
theorem dX3_product_31 : decode cX3_product 31 = .ok (.iinc 4 1, 3) := dk_132 hN_cX3_product rfl rfl rfl rfl
theorem dX3_product_34 : decode cX3_product 34 = .ok (.goto (-29), 3) := dk_167 hN_cX3_product rfl rfl rfl
theorem dX3_hasRay_0 : decode cX3_hasRay 0 = .ok (.iload_n 1, 1) := dk_27 hN_cX3_hasRay rfl rfl
theorem dX3_hasRay_1 : decode cX3_hasRay 1 = .ok (.ifCond .lt 15, 3) := dk_155 hN_cX3_hasRay rfl rfl rfl
theorem dX3_hasRay_16 : decode cX3_hasRay 16 = .ok (.iconst 0, 1) := dk_3 hN_cX3_hasRay rfl rfl
theorem dX3_hasRay_17 : decode cX3_hasRay 17 = .ok (.ireturn, 1) := dk_172 hN_cX3_hasRay rfl rfl
theorem dX3_hasRay_4 : decode cX3_hasRay 4 = .ok (.iload_n 1, 1) := dk_27 hN_cX3_hasRay rfl rfl
theorem dX3_hasRay_5 : decode cX3_hasRay 5 = .ok (.aload_n 0, 1) := dk_42 hN_cX3_hasRay rfl rfl
theorem dX3_hasRay_6 : decode cX3_hasRay 6 = .ok (.getfield 24, 3) := dk_180 hN_cX3_hasRay rfl rfl rfl
theorem dX3_hasRay_9 : decode cX3_hasRay 9 = .ok (.if_icmp .ge 7, 3) := dk_162 hN_cX3_hasRay rfl rfl rfl
theorem dX3_hasRay_12 : decode cX3_hasRay 12 = .ok (.iconst 1, 1) := dk_4 hN_cX3_hasRay rfl rfl
theorem dX3_hasRay_13 : decode cX3_hasRay 13 = .ok (.goto 4, 3) := dk_167 hN_cX3_hasRay rfl rfl rfl
theorem dX3_findCorners_0 : decode cX3_findCorners 0 = .ok (.aload_n 0, 1) := dk_42 hN_cX3_findCorners rfl rfl
theorem dX3_findCorners_1 : decode cX3_findCorners 1 = .ok (.iconst 0, 1) := dk_3 hN_cX3_findCorners rfl rfl
theorem dX3_findCorners_2 : decode cX3_findCorners 2 = .ok (.putfield 39, 3) := dk_181 hN_cX3_findCorners rfl rfl rfl
theorem dX3_findCorners_5 : decode cX3_findCorners 5 = .ok (.iconst 0, 1) := dk_3 hN_cX3_findCorners rfl rfl
theorem dX3_findCorners_6 : decode cX3_findCorners 6 = .ok (.istore_n 1, 1) := dk_60 hN_cX3_findCorners rfl rfl
theorem dX3_findCorners_7 : decode cX3_findCorners 7 = .ok (.iload_n 1, 1) := dk_27 hN_cX3_findCorners rfl rfl
theorem dX3_findCorners_8 : decode cX3_findCorners 8 = .ok (.aload_n 0, 1) := dk_42 hN_cX3_findCorners rfl rfl
theorem dX3_findCorners_9 : decode cX3_findCorners 9 = .ok (.getfield 24, 3) := dk_180 hN_cX3_findCorners rfl rfl rfl
theorem dX3_findCorners_12 : decode cX3_findCorners 12 = .ok (.if_icmp .ge 46, 3) := dk_162 hN_cX3_findCorners rfl rfl rfl
theorem dX3_findCorners_58 : decode cX3_findCorners 58 = .ok (.return_, 1) := dk_177 hN_cX3_findCorners rfl rfl
theorem dX3_findCorners_15 : decode cX3_findCorners 15 = .ok (.iload_n 1, 1) := dk_27 hN_cX3_findCorners rfl rfl
theorem dX3_findCorners_16 : decode cX3_findCorners 16 = .ok (.iconst 1, 1) := dk_4 hN_cX3_findCorners rfl rfl
theorem dX3_findCorners_17 : decode cX3_findCorners 17 = .ok (.iadd, 1) := dk_96 hN_cX3_findCorners rfl rfl
theorem dX3_findCorners_18 : decode cX3_findCorners 18 = .ok (.istore_n 2, 1) := dk_61 hN_cX3_findCorners rfl rfl
theorem dX3_findCorners_19 : decode cX3_findCorners 19 = .ok (.iload_n 2, 1) := dk_28 hN_cX3_findCorners rfl rfl
theorem dX3_findCorners_20 : decode cX3_findCorners 20 = .ok (.aload_n 0, 1) := dk_42 hN_cX3_findCorners rfl rfl
theorem dX3_findCorners_21 : decode cX3_findCorners 21 = .ok (.getfield 24, 3) := dk_180 hN_cX3_findCorners rfl rfl rfl
theorem dX3_findCorners_24 : decode cX3_findCorners 24 = .ok (.if_icmp .ge 28, 3) := dk_162 hN_cX3_findCorners rfl rfl rfl
theorem dX3_findCorners_52 : decode cX3_findCorners 52 = .ok (.iinc 1 1, 3) := dk_132 hN_cX3_findCorners rfl rfl rfl rfl
theorem dX3_findCorners_55 : decode cX3_findCorners 55 = .ok (.goto (-48), 3) := dk_167 hN_cX3_findCorners rfl rfl rfl
theorem dX3_findCorners_27 : decode cX3_findCorners 27 = .ok (.aload_n 0, 1) := dk_42 hN_cX3_findCorners rfl rfl
theorem dX3_findCorners_28 : decode cX3_findCorners 28 = .ok (.getfield 9, 3) := dk_180 hN_cX3_findCorners rfl rfl rfl
theorem dX3_findCorners_31 : decode cX3_findCorners 31 = .ok (.iload_n 1, 1) := dk_27 hN_cX3_findCorners rfl rfl
theorem dX3_findCorners_32 : decode cX3_findCorners 32 = .ok (.iaload, 1) := dk_46 hN_cX3_findCorners rfl rfl
theorem dX3_findCorners_33 : decode cX3_findCorners 33 = .ok (.iload_n 2, 1) := dk_28 hN_cX3_findCorners rfl rfl
theorem dX3_findCorners_34 : decode cX3_findCorners 34 = .ok (.ishr, 1) := dk_122 hN_cX3_findCorners rfl rfl
theorem dX3_findCorners_35 : decode cX3_findCorners 35 = .ok (.iconst 1, 1) := dk_4 hN_cX3_findCorners rfl rfl
theorem dX3_findCorners_36 : decode cX3_findCorners 36 = .ok (.iand, 1) := dk_126 hN_cX3_findCorners rfl rfl
theorem dX3_findCorners_37 : decode cX3_findCorners 37 = .ok (.ifCond .eq 9, 3) := dk_153 hN_cX3_findCorners rfl rfl rfl
theorem dX3_findCorners_46 : decode cX3_findCorners 46 = .ok (.iinc 2 1, 3) := dk_132 hN_cX3_findCorners rfl rfl rfl rfl
theorem dX3_findCorners_49 : decode cX3_findCorners 49 = .ok (.goto (-30), 3) := dk_167 hN_cX3_findCorners rfl rfl rfl
theorem dX3_findCorners_40 : decode cX3_findCorners 40 = .ok (.aload_n 0, 1) := dk_42 hN_cX3_findCorners rfl rfl
theorem dX3_findCorners_41 : decode cX3_findCorners 41 = .ok (.iload_n 1, 1) := dk_27 hN_cX3_findCorners rfl rfl
theorem dX3_findCorners_42 : decode cX3_findCorners 42 = .ok (.iload_n 2, 1) := dk_28 hN_cX3_findCorners rfl rfl
theorem dX3_findCorners_43 : decode cX3_findCorners 43 = .ok (.invokevirtual 42, 3) := dk_182 hN_cX3_findCorners rfl rfl rfl
theorem dX3_findCornersOf_0 : decode cX3_findCornersOf 0 = .ok (.aload_n 0, 1) := dk_42 hN_cX3_findCornersOf rfl rfl
theorem dX3_findCornersOf_1 : decode cX3_findCornersOf 1 = .ok (.getfield 9, 3) := dk_180 hN_cX3_findCornersOf rfl rfl rfl
theorem dX3_findCornersOf_4 : decode cX3_findCornersOf 4 = .ok (.iload_n 1, 1) := dk_27 hN_cX3_findCornersOf rfl rfl
theorem dX3_findCornersOf_5 : decode cX3_findCornersOf 5 = .ok (.iaload, 1) := dk_46 hN_cX3_findCornersOf rfl rfl
theorem dX3_findCornersOf_6 : decode cX3_findCornersOf 6 = .ok (.aload_n 0, 1) := dk_42 hN_cX3_findCornersOf rfl rfl
theorem dX3_findCornersOf_7 : decode cX3_findCornersOf 7 = .ok (.getfield 9, 3) := dk_180 hN_cX3_findCornersOf rfl rfl rfl
theorem dX3_findCornersOf_10 : decode cX3_findCornersOf 10 = .ok (.iload_n 2, 1) := dk_28 hN_cX3_findCornersOf rfl rfl
theorem dX3_findCornersOf_11 : decode cX3_findCornersOf 11 = .ok (.iaload, 1) := dk_46 hN_cX3_findCornersOf rfl rfl
theorem dX3_findCornersOf_12 : decode cX3_findCornersOf 12 = .ok (.iand, 1) := dk_126 hN_cX3_findCornersOf rfl rfl
theorem dX3_findCornersOf_13 : decode cX3_findCornersOf 13 = .ok (.istore_n 3, 1) := dk_62 hN_cX3_findCornersOf rfl rfl
theorem dX3_findCornersOf_14 : decode cX3_findCornersOf 14 = .ok (.iload_n 2, 1) := dk_28 hN_cX3_findCornersOf rfl rfl
theorem dX3_findCornersOf_15 : decode cX3_findCornersOf 15 = .ok (.iconst 1, 1) := dk_4 hN_cX3_findCornersOf rfl rfl
theorem dX3_findCornersOf_16 : decode cX3_findCornersOf 16 = .ok (.iadd, 1) := dk_96 hN_cX3_findCornersOf rfl rfl
theorem dX3_findCornersOf_17 : decode cX3_findCornersOf 17 = .ok (.istore 4, 2) := dk_54 hN_cX3_findCornersOf rfl rfl rfl
theorem dX3_findCornersOf_19 : decode cX3_findCornersOf 19 = .ok (.iload 4, 2) := dk_21 hN_cX3_findCornersOf rfl rfl rfl
theorem dX3_findCornersOf_21 : decode cX3_findCornersOf 21 = .ok (.aload_n 0, 1) := dk_42 hN_cX3_findCornersOf rfl rfl
theorem dX3_findCornersOf_22 : decode cX3_findCornersOf 22 = .ok (.getfield 24, 3) := dk_180 hN_cX3_findCornersOf rfl rfl rfl
theorem dX3_findCornersOf_25 : decode cX3_findCornersOf 25 = .ok (.if_icmp .ge 110, 3) := dk_162 hN_cX3_findCornersOf rfl rfl rfl
theorem dX3_findCornersOf_135 : decode cX3_findCornersOf 135 = .ok (.return_, 1) := dk_177 hN_cX3_findCornersOf rfl rfl
theorem dX3_findCornersOf_28 : decode cX3_findCornersOf 28 = .ok (.iload_n 3, 1) := dk_29 hN_cX3_findCornersOf rfl rfl
theorem dX3_findCornersOf_29 : decode cX3_findCornersOf 29 = .ok (.iload 4, 2) := dk_21 hN_cX3_findCornersOf rfl rfl rfl
theorem dX3_findCornersOf_31 : decode cX3_findCornersOf 31 = .ok (.ishr, 1) := dk_122 hN_cX3_findCornersOf rfl rfl
theorem dX3_findCornersOf_32 : decode cX3_findCornersOf 32 = .ok (.iconst 1, 1) := dk_4 hN_cX3_findCornersOf rfl rfl
theorem dX3_findCornersOf_33 : decode cX3_findCornersOf 33 = .ok (.iand, 1) := dk_126 hN_cX3_findCornersOf rfl rfl
theorem dX3_findCornersOf_34 : decode cX3_findCornersOf 34 = .ok (.ifCond .eq 15, 3) := dk_153 hN_cX3_findCornersOf rfl rfl rfl
theorem dX3_findCornersOf_49 : decode cX3_findCornersOf 49 = .ok (.iconst 0, 1) := dk_3 hN_cX3_findCornersOf rfl rfl
theorem dX3_findCornersOf_50 : decode cX3_findCornersOf 50 = .ok (.istore 5, 2) := dk_54 hN_cX3_findCornersOf rfl rfl rfl
theorem dX3_findCornersOf_52 : decode cX3_findCornersOf 52 = .ok (.iload 4, 2) := dk_21 hN_cX3_findCornersOf rfl rfl rfl
theorem dX3_findCornersOf_54 : decode cX3_findCornersOf 54 = .ok (.iconst 1, 1) := dk_4 hN_cX3_findCornersOf rfl rfl
theorem dX3_findCornersOf_55 : decode cX3_findCornersOf 55 = .ok (.iadd, 1) := dk_96 hN_cX3_findCornersOf rfl rfl
theorem dX3_findCornersOf_56 : decode cX3_findCornersOf 56 = .ok (.istore 6, 2) := dk_54 hN_cX3_findCornersOf rfl rfl rfl
theorem dX3_findCornersOf_37 : decode cX3_findCornersOf 37 = .ok (.iload_n 3, 1) := dk_29 hN_cX3_findCornersOf rfl rfl
theorem dX3_findCornersOf_38 : decode cX3_findCornersOf 38 = .ok (.aload_n 0, 1) := dk_42 hN_cX3_findCornersOf rfl rfl
theorem dX3_findCornersOf_39 : decode cX3_findCornersOf 39 = .ok (.getfield 9, 3) := dk_180 hN_cX3_findCornersOf rfl rfl rfl
theorem dX3_findCornersOf_42 : decode cX3_findCornersOf 42 = .ok (.iload 4, 2) := dk_21 hN_cX3_findCornersOf rfl rfl rfl
theorem dX3_findCornersOf_44 : decode cX3_findCornersOf 44 = .ok (.iaload, 1) := dk_46 hN_cX3_findCornersOf rfl rfl
theorem dX3_findCornersOf_45 : decode cX3_findCornersOf 45 = .ok (.iand, 1) := dk_126 hN_cX3_findCornersOf rfl rfl
theorem dX3_findCornersOf_46 : decode cX3_findCornersOf 46 = .ok (.goto 4, 3) := dk_167 hN_cX3_findCornersOf rfl rfl rfl
theorem dX3_findCornersOf_58 : decode cX3_findCornersOf 58 = .ok (.iload 6, 2) := dk_21 hN_cX3_findCornersOf rfl rfl rfl
theorem dX3_findCornersOf_60 : decode cX3_findCornersOf 60 = .ok (.aload_n 0, 1) := dk_42 hN_cX3_findCornersOf rfl rfl
theorem dX3_findCornersOf_61 : decode cX3_findCornersOf 61 = .ok (.getfield 24, 3) := dk_180 hN_cX3_findCornersOf rfl rfl rfl
theorem dX3_findCornersOf_64 : decode cX3_findCornersOf 64 = .ok (.if_icmp .ge 65, 3) := dk_162 hN_cX3_findCornersOf rfl rfl rfl
theorem dX3_findCornersOf_129 : decode cX3_findCornersOf 129 = .ok (.iinc 4 1, 3) := dk_132 hN_cX3_findCornersOf rfl rfl rfl rfl
theorem dX3_findCornersOf_132 : decode cX3_findCornersOf 132 = .ok (.goto (-113), 3) := dk_167 hN_cX3_findCornersOf rfl rfl rfl
theorem dX3_findCornersOf_67 : decode cX3_findCornersOf 67 = .ok (.iload 5, 2) := dk_21 hN_cX3_findCornersOf rfl rfl rfl
theorem dX3_findCornersOf_69 : decode cX3_findCornersOf 69 = .ok (.iload 6, 2) := dk_21 hN_cX3_findCornersOf rfl rfl rfl
theorem dX3_findCornersOf_71 : decode cX3_findCornersOf 71 = .ok (.ishr, 1) := dk_122 hN_cX3_findCornersOf rfl rfl
theorem dX3_findCornersOf_72 : decode cX3_findCornersOf 72 = .ok (.iconst 1, 1) := dk_4 hN_cX3_findCornersOf rfl rfl
theorem dX3_findCornersOf_73 : decode cX3_findCornersOf 73 = .ok (.iand, 1) := dk_126 hN_cX3_findCornersOf rfl rfl
theorem dX3_findCornersOf_74 : decode cX3_findCornersOf 74 = .ok (.ifCond .eq 49, 3) := dk_153 hN_cX3_findCornersOf rfl rfl rfl
theorem dX3_findCornersOf_123 : decode cX3_findCornersOf 123 = .ok (.iinc 6 1, 3) := dk_132 hN_cX3_findCornersOf rfl rfl rfl rfl
theorem dX3_findCornersOf_126 : decode cX3_findCornersOf 126 = .ok (.goto (-68), 3) := dk_167 hN_cX3_findCornersOf rfl rfl rfl
theorem dX3_findCornersOf_77 : decode cX3_findCornersOf 77 = .ok (.aload_n 0, 1) := dk_42 hN_cX3_findCornersOf rfl rfl
theorem dX3_findCornersOf_78 : decode cX3_findCornersOf 78 = .ok (.getfield 39, 3) := dk_180 hN_cX3_findCornersOf rfl rfl rfl
theorem dX3_findCornersOf_81 : decode cX3_findCornersOf 81 = .ok (.sipush 400, 3) := dk_17 hN_cX3_findCornersOf rfl rfl rfl
theorem dX3_findCornersOf_84 : decode cX3_findCornersOf 84 = .ok (.if_icmp .ge 39, 3) := dk_162 hN_cX3_findCornersOf rfl rfl rfl
theorem dX3_findCornersOf_87 : decode cX3_findCornersOf 87 = .ok (.aload_n 0, 1) := dk_42 hN_cX3_findCornersOf rfl rfl
theorem dX3_findCornersOf_88 : decode cX3_findCornersOf 88 = .ok (.getfield 15, 3) := dk_180 hN_cX3_findCornersOf rfl rfl rfl
theorem dX3_findCornersOf_91 : decode cX3_findCornersOf 91 = .ok (.aload_n 0, 1) := dk_42 hN_cX3_findCornersOf rfl rfl
theorem dX3_findCornersOf_92 : decode cX3_findCornersOf 92 = .ok (.getfield 39, 3) := dk_180 hN_cX3_findCornersOf rfl rfl rfl
theorem dX3_findCornersOf_95 : decode cX3_findCornersOf 95 = .ok (.iconst 1, 1) := dk_4 hN_cX3_findCornersOf rfl rfl
theorem dX3_findCornersOf_96 : decode cX3_findCornersOf 96 = .ok (.iload_n 1, 1) := dk_27 hN_cX3_findCornersOf rfl rfl
theorem dX3_findCornersOf_97 : decode cX3_findCornersOf 97 = .ok (.ishl, 1) := dk_120 hN_cX3_findCornersOf rfl rfl
theorem dX3_findCornersOf_98 : decode cX3_findCornersOf 98 = .ok (.iconst 1, 1) := dk_4 hN_cX3_findCornersOf rfl rfl
theorem dX3_findCornersOf_99 : decode cX3_findCornersOf 99 = .ok (.iload_n 2, 1) := dk_28 hN_cX3_findCornersOf rfl rfl
theorem dX3_findCornersOf_100 : decode cX3_findCornersOf 100 = .ok (.ishl, 1) := dk_120 hN_cX3_findCornersOf rfl rfl
theorem dX3_findCornersOf_101 : decode cX3_findCornersOf 101 = .ok (.ior, 1) := dk_128 hN_cX3_findCornersOf rfl rfl
theorem dX3_findCornersOf_102 : decode cX3_findCornersOf 102 = .ok (.iconst 1, 1) := dk_4 hN_cX3_findCornersOf rfl rfl
theorem dX3_findCornersOf_103 : decode cX3_findCornersOf 103 = .ok (.iload 4, 2) := dk_21 hN_cX3_findCornersOf rfl rfl rfl
theorem dX3_findCornersOf_105 : decode cX3_findCornersOf 105 = .ok (.ishl, 1) := dk_120 hN_cX3_findCornersOf rfl rfl
theorem dX3_findCornersOf_106 : decode cX3_findCornersOf 106 = .ok (.ior, 1) := dk_128 hN_cX3_findCornersOf rfl rfl
theorem dX3_findCornersOf_107 : decode cX3_findCornersOf 107 = .ok (.iconst 1, 1) := dk_4 hN_cX3_findCornersOf rfl rfl
theorem dX3_findCornersOf_108 : decode cX3_findCornersOf 108 = .ok (.iload 6, 2) := dk_21 hN_cX3_findCornersOf rfl rfl rfl
theorem dX3_findCornersOf_110 : decode cX3_findCornersOf 110 = .ok (.ishl, 1) := dk_120 hN_cX3_findCornersOf rfl rfl
theorem dX3_findCornersOf_111 : decode cX3_findCornersOf 111 = .ok (.ior, 1) := dk_128 hN_cX3_findCornersOf rfl rfl
theorem dX3_findCornersOf_112 : decode cX3_findCornersOf 112 = .ok (.iastore, 1) := dk_79 hN_cX3_findCornersOf rfl rfl
theorem dX3_findCornersOf_113 : decode cX3_findCornersOf 113 = .ok (.aload_n 0, 1) := dk_42 hN_cX3_findCornersOf rfl rfl
theorem dX3_findCornersOf_114 : decode cX3_findCornersOf 114 = .ok (.dup, 1) := dk_89 hN_cX3_findCornersOf rfl rfl
theorem dX3_findCornersOf_115 : decode cX3_findCornersOf 115 = .ok (.getfield 39, 3) := dk_180 hN_cX3_findCornersOf rfl rfl rfl
theorem dX3_findCornersOf_118 : decode cX3_findCornersOf 118 = .ok (.iconst 1, 1) := dk_4 hN_cX3_findCornersOf rfl rfl
theorem dX3_findCornersOf_119 : decode cX3_findCornersOf 119 = .ok (.iadd, 1) := dk_96 hN_cX3_findCornersOf rfl rfl
theorem dX3_findCornersOf_120 : decode cX3_findCornersOf 120 = .ok (.putfield 39, 3) := dk_181 hN_cX3_findCornersOf rfl rfl rfl
theorem dX3_work_0 : decode cX3_work 0 = .ok (.aload_n 0, 1) := dk_42 hN_cX3_work rfl rfl
theorem dX3_work_1 : decode cX3_work 1 = .ok (.getfield 25, 3) := dk_180 hN_cX3_work rfl rfl rfl
theorem dX3_work_4 : decode cX3_work 4 = .ok (.ifCond .eq 4, 3) := dk_153 hN_cX3_work rfl rfl rfl
theorem dX3_work_8 : decode cX3_work 8 = .ok (.aload_n 0, 1) := dk_42 hN_cX3_work rfl rfl
theorem dX3_work_9 : decode cX3_work 9 = .ok (.iconst 1, 1) := dk_4 hN_cX3_work rfl rfl
theorem dX3_work_10 : decode cX3_work 10 = .ok (.putfield 25, 3) := dk_181 hN_cX3_work rfl rfl rfl
theorem dX3_work_13 : decode cX3_work 13 = .ok (.iconst 1, 1) := dk_4 hN_cX3_work rfl rfl
theorem dX3_work_14 : decode cX3_work 14 = .ok (.aload_n 0, 1) := dk_42 hN_cX3_work rfl rfl
theorem dX3_work_15 : decode cX3_work 15 = .ok (.getfield 24, 3) := dk_180 hN_cX3_work rfl rfl rfl
theorem dX3_work_18 : decode cX3_work 18 = .ok (.ishl, 1) := dk_120 hN_cX3_work rfl rfl
theorem dX3_work_19 : decode cX3_work 19 = .ok (.iconst 1, 1) := dk_4 hN_cX3_work rfl rfl
theorem dX3_work_20 : decode cX3_work 20 = .ok (.isub, 1) := dk_100 hN_cX3_work rfl rfl
theorem dX3_work_21 : decode cX3_work 21 = .ok (.istore_n 1, 1) := dk_60 hN_cX3_work rfl rfl
theorem dX3_work_22 : decode cX3_work 22 = .ok (.aload_n 0, 1) := dk_42 hN_cX3_work rfl rfl
theorem dX3_work_23 : decode cX3_work 23 = .ok (.aload_n 0, 1) := dk_42 hN_cX3_work rfl rfl
theorem dX3_work_24 : decode cX3_work 24 = .ok (.iload_n 1, 1) := dk_27 hN_cX3_work rfl rfl
theorem dX3_work_25 : decode cX3_work 25 = .ok (.invokevirtual 46, 3) := dk_182 hN_cX3_work rfl rfl rfl
theorem dX3_work_28 : decode cX3_work 28 = .ok (.putfield 50, 3) := dk_181 hN_cX3_work rfl rfl rfl
theorem dX3_work_31 : decode cX3_work 31 = .ok (.aload_n 0, 1) := dk_42 hN_cX3_work rfl rfl
theorem dX3_work_32 : decode cX3_work 32 = .ok (.aload_n 0, 1) := dk_42 hN_cX3_work rfl rfl
theorem dX3_work_33 : decode cX3_work 33 = .ok (.getfield 53, 3) := dk_180 hN_cX3_work rfl rfl rfl
theorem dX3_work_36 : decode cX3_work 36 = .ok (.putfield 56, 3) := dk_181 hN_cX3_work rfl rfl rfl
theorem dX3_work_39 : decode cX3_work 39 = .ok (.aload_n 0, 1) := dk_42 hN_cX3_work rfl rfl
theorem dX3_work_40 : decode cX3_work 40 = .ok (.iconst 0, 1) := dk_3 hN_cX3_work rfl rfl
theorem dX3_work_41 : decode cX3_work 41 = .ok (.putfield 59, 3) := dk_181 hN_cX3_work rfl rfl rfl
theorem dX3_work_44 : decode cX3_work 44 = .ok (.aload_n 0, 1) := dk_42 hN_cX3_work rfl rfl
theorem dX3_work_45 : decode cX3_work 45 = .ok (.iload_n 1, 1) := dk_27 hN_cX3_work rfl rfl
theorem dX3_work_46 : decode cX3_work 46 = .ok (.putfield 62, 3) := dk_181 hN_cX3_work rfl rfl rfl
theorem dX3_work_49 : decode cX3_work 49 = .ok (.iconst 0, 1) := dk_3 hN_cX3_work rfl rfl
theorem dX3_work_50 : decode cX3_work 50 = .ok (.istore_n 2, 1) := dk_61 hN_cX3_work rfl rfl
theorem dX3_work_7 : decode cX3_work 7 = .ok (.return_, 1) := dk_177 hN_cX3_work rfl rfl
theorem dX3_work_51 : decode cX3_work 51 = .ok (.aload_n 0, 1) := dk_42 hN_cX3_work rfl rfl
theorem dX3_work_52 : decode cX3_work 52 = .ok (.getfield 50, 3) := dk_180 hN_cX3_work rfl rfl rfl
theorem dX3_work_55 : decode cX3_work 55 = .ok (.ifCond .ne 74, 3) := dk_154 hN_cX3_work rfl rfl rfl
theorem dX3_work_129 : decode cX3_work 129 = .ok (.return_, 1) := dk_177 hN_cX3_work rfl rfl
theorem dX3_work_58 : decode cX3_work 58 = .ok (.iload_n 2, 1) := dk_28 hN_cX3_work rfl rfl
theorem dX3_work_59 : decode cX3_work 59 = .ok (.aload_n 0, 1) := dk_42 hN_cX3_work rfl rfl
theorem dX3_work_60 : decode cX3_work 60 = .ok (.getfield 24, 3) := dk_180 hN_cX3_work rfl rfl rfl
theorem dX3_work_63 : decode cX3_work 63 = .ok (.if_icmp .ge 66, 3) := dk_162 hN_cX3_work rfl rfl rfl
theorem dX3_work_66 : decode cX3_work 66 = .ok (.aload_n 0, 1) := dk_42 hN_cX3_work rfl rfl
theorem dX3_work_67 : decode cX3_work 67 = .ok (.iload_n 1, 1) := dk_27 hN_cX3_work rfl rfl
theorem dX3_work_68 : decode cX3_work 68 = .ok (.iconst 1, 1) := dk_4 hN_cX3_work rfl rfl
theorem dX3_work_69 : decode cX3_work 69 = .ok (.iload_n 2, 1) := dk_28 hN_cX3_work rfl rfl
theorem dX3_work_70 : decode cX3_work 70 = .ok (.ishl, 1) := dk_120 hN_cX3_work rfl rfl
theorem dX3_work_71 : decode cX3_work 71 = .ok (.iconst (-1), 1) := dk_2 hN_cX3_work rfl rfl
theorem dX3_work_72 : decode cX3_work 72 = .ok (.ixor, 1) := dk_130 hN_cX3_work rfl rfl
theorem dX3_work_73 : decode cX3_work 73 = .ok (.iand, 1) := dk_126 hN_cX3_work rfl rfl
theorem dX3_work_74 : decode cX3_work 74 = .ok (.invokevirtual 46, 3) := dk_182 hN_cX3_work rfl rfl rfl
theorem dX3_work_77 : decode cX3_work 77 = .ok (.ifCond .ne 15, 3) := dk_154 hN_cX3_work rfl rfl rfl
theorem dX3_work_92 : decode cX3_work 92 = .ok (.aload_n 0, 1) := dk_42 hN_cX3_work rfl rfl
theorem dX3_work_93 : decode cX3_work 93 = .ok (.aload_n 0, 1) := dk_42 hN_cX3_work rfl rfl
theorem dX3_work_94 : decode cX3_work 94 = .ok (.getfield 62, 3) := dk_180 hN_cX3_work rfl rfl rfl
theorem dX3_work_97 : decode cX3_work 97 = .ok (.iconst 1, 1) := dk_4 hN_cX3_work rfl rfl
theorem dX3_work_98 : decode cX3_work 98 = .ok (.iload_n 2, 1) := dk_28 hN_cX3_work rfl rfl
theorem dX3_work_99 : decode cX3_work 99 = .ok (.ishl, 1) := dk_120 hN_cX3_work rfl rfl
theorem dX3_work_100 : decode cX3_work 100 = .ok (.iconst (-1), 1) := dk_2 hN_cX3_work rfl rfl
theorem dX3_work_101 : decode cX3_work 101 = .ok (.ixor, 1) := dk_130 hN_cX3_work rfl rfl
theorem dX3_work_102 : decode cX3_work 102 = .ok (.iand, 1) := dk_126 hN_cX3_work rfl rfl
theorem dX3_work_103 : decode cX3_work 103 = .ok (.invokevirtual 46, 3) := dk_182 hN_cX3_work rfl rfl rfl
theorem dX3_work_106 : decode cX3_work 106 = .ok (.ifCond .ne 17, 3) := dk_154 hN_cX3_work rfl rfl rfl
theorem dX3_work_123 : decode cX3_work 123 = .ok (.iinc 2 1, 3) := dk_132 hN_cX3_work rfl rfl rfl rfl
theorem dX3_work_126 : decode cX3_work 126 = .ok (.goto (-75), 3) := dk_167 hN_cX3_work rfl rfl rfl
theorem dX3_work_109 : decode cX3_work 109 = .ok (.aload_n 0, 1) := dk_42 hN_cX3_work rfl rfl
theorem dX3_work_110 : decode cX3_work 110 = .ok (.dup, 1) := dk_89 hN_cX3_work rfl rfl
theorem dX3_work_111 : decode cX3_work 111 = .ok (.getfield 62, 3) := dk_180 hN_cX3_work rfl rfl rfl
theorem dX3_work_114 : decode cX3_work 114 = .ok (.iconst 1, 1) := dk_4 hN_cX3_work rfl rfl
theorem dX3_work_115 : decode cX3_work 115 = .ok (.iload_n 2, 1) := dk_28 hN_cX3_work rfl rfl
theorem dX3_work_116 : decode cX3_work 116 = .ok (.ishl, 1) := dk_120 hN_cX3_work rfl rfl
theorem dX3_work_117 : decode cX3_work 117 = .ok (.iconst (-1), 1) := dk_2 hN_cX3_work rfl rfl
theorem dX3_work_118 : decode cX3_work 118 = .ok (.ixor, 1) := dk_130 hN_cX3_work rfl rfl
theorem dX3_work_119 : decode cX3_work 119 = .ok (.iand, 1) := dk_126 hN_cX3_work rfl rfl
theorem dX3_work_120 : decode cX3_work 120 = .ok (.putfield 62, 3) := dk_181 hN_cX3_work rfl rfl rfl
theorem dX3_work_80 : decode cX3_work 80 = .ok (.aload_n 0, 1) := dk_42 hN_cX3_work rfl rfl
theorem dX3_work_81 : decode cX3_work 81 = .ok (.dup, 1) := dk_89 hN_cX3_work rfl rfl
theorem dX3_work_82 : decode cX3_work 82 = .ok (.getfield 59, 3) := dk_180 hN_cX3_work rfl rfl rfl
theorem dX3_work_85 : decode cX3_work 85 = .ok (.iconst 1, 1) := dk_4 hN_cX3_work rfl rfl
theorem dX3_work_86 : decode cX3_work 86 = .ok (.iload_n 2, 1) := dk_28 hN_cX3_work rfl rfl
theorem dX3_work_87 : decode cX3_work 87 = .ok (.ishl, 1) := dk_120 hN_cX3_work rfl rfl
theorem dX3_work_88 : decode cX3_work 88 = .ok (.ior, 1) := dk_128 hN_cX3_work rfl rfl
theorem dX3_work_89 : decode cX3_work 89 = .ok (.putfield 59, 3) := dk_181 hN_cX3_work rfl rfl rfl
theorem dX3_countColours_0 : decode cX3_countColours 0 = .ok (.aload_n 0, 1) := dk_42 hN_cX3_countColours rfl rfl
theorem dX3_countColours_1 : decode cX3_countColours 1 = .ok (.iload_n 1, 1) := dk_27 hN_cX3_countColours rfl rfl
theorem dX3_countColours_2 : decode cX3_countColours 2 = .ok (.putfield 65, 3) := dk_181 hN_cX3_countColours rfl rfl rfl
theorem dX3_countColours_5 : decode cX3_countColours 5 = .ok (.aload_n 0, 1) := dk_42 hN_cX3_countColours rfl rfl
theorem dX3_countColours_6 : decode cX3_countColours 6 = .ok (.iconst 0, 1) := dk_3 hN_cX3_countColours rfl rfl
theorem dX3_countColours_7 : decode cX3_countColours 7 = .ok (.putfield 68, 3) := dk_181 hN_cX3_countColours rfl rfl rfl
theorem dX3_countColours_10 : decode cX3_countColours 10 = .ok (.aload_n 0, 1) := dk_42 hN_cX3_countColours rfl rfl
theorem dX3_countColours_11 : decode cX3_countColours 11 = .ok (.iconst 0, 1) := dk_3 hN_cX3_countColours rfl rfl
theorem dX3_countColours_12 : decode cX3_countColours 12 = .ok (.putfield 53, 3) := dk_181 hN_cX3_countColours rfl rfl rfl
theorem dX3_countColours_15 : decode cX3_countColours 15 = .ok (.aload_n 0, 1) := dk_42 hN_cX3_countColours rfl rfl
theorem dX3_countColours_16 : decode cX3_countColours 16 = .ok (.iload_n 1, 1) := dk_27 hN_cX3_countColours rfl rfl
theorem dX3_countColours_17 : decode cX3_countColours 17 = .ok (.iconst 0, 1) := dk_3 hN_cX3_countColours rfl rfl
theorem dX3_countColours_18 : decode cX3_countColours 18 = .ok (.iconst 0, 1) := dk_3 hN_cX3_countColours rfl rfl
theorem dX3_countColours_19 : decode cX3_countColours 19 = .ok (.invokevirtual 71, 3) := dk_182 hN_cX3_countColours rfl rfl rfl
theorem dX3_countColours_22 : decode cX3_countColours 22 = .ok (.aload_n 0, 1) := dk_42 hN_cX3_countColours rfl rfl
theorem dX3_countColours_23 : decode cX3_countColours 23 = .ok (.getfield 68, 3) := dk_180 hN_cX3_countColours rfl rfl rfl
theorem dX3_countColours_26 : decode cX3_countColours 26 = .ok (.ireturn, 1) := dk_172 hN_cX3_countColours rfl rfl
theorem dX3_colour_0 : decode cX3_colour 0 = .ok (.iload_n 3, 1) := dk_29 hN_cX3_colour rfl rfl
theorem dX3_colour_1 : decode cX3_colour 1 = .ok (.bipush 18, 2) := dk_16 hN_cX3_colour rfl rfl rfl
theorem dX3_colour_3 : decode cX3_colour 3 = .ok (.if_icmp .le 4, 3) := dk_164 hN_cX3_colour rfl rfl rfl
theorem dX3_colour_7 : decode cX3_colour 7 = .ok (.aload_n 0, 1) := dk_42 hN_cX3_colour rfl rfl
theorem dX3_colour_8 : decode cX3_colour 8 = .ok (.iload_n 1, 1) := dk_27 hN_cX3_colour rfl rfl
theorem dX3_colour_9 : decode cX3_colour 9 = .ok (.invokevirtual 75, 3) := dk_182 hN_cX3_colour rfl rfl rfl
theorem dX3_colour_12 : decode cX3_colour 12 = .ok (.istore 4, 2) := dk_54 hN_cX3_colour rfl rfl rfl
theorem dX3_colour_14 : decode cX3_colour 14 = .ok (.iconst 0, 1) := dk_3 hN_cX3_colour rfl rfl
theorem dX3_colour_15 : decode cX3_colour 15 = .ok (.istore 5, 2) := dk_54 hN_cX3_colour rfl rfl rfl
theorem dX3_colour_6 : decode cX3_colour 6 = .ok (.return_, 1) := dk_177 hN_cX3_colour rfl rfl
theorem dX3_colour_17 : decode cX3_colour 17 = .ok (.iload 5, 2) := dk_21 hN_cX3_colour rfl rfl rfl
theorem dX3_colour_19 : decode cX3_colour 19 = .ok (.aload_n 0, 1) := dk_42 hN_cX3_colour rfl rfl
theorem dX3_colour_20 : decode cX3_colour 20 = .ok (.getfield 39, 3) := dk_180 hN_cX3_colour rfl rfl rfl
theorem dX3_colour_23 : decode cX3_colour 23 = .ok (.if_icmp .ge 96, 3) := dk_162 hN_cX3_colour rfl rfl rfl
theorem dX3_colour_119 : decode cX3_colour 119 = .ok (.iload 4, 2) := dk_21 hN_cX3_colour rfl rfl rfl
theorem dX3_colour_121 : decode cX3_colour 121 = .ok (.ifCond .ge 41, 3) := dk_156 hN_cX3_colour rfl rfl rfl
theorem dX3_colour_162 : decode cX3_colour 162 = .ok (.aload_n 0, 1) := dk_42 hN_cX3_colour rfl rfl
theorem dX3_colour_163 : decode cX3_colour 163 = .ok (.iload_n 1, 1) := dk_27 hN_cX3_colour rfl rfl
theorem dX3_colour_164 : decode cX3_colour 164 = .ok (.iconst 1, 1) := dk_4 hN_cX3_colour rfl rfl
theorem dX3_colour_165 : decode cX3_colour 165 = .ok (.iload 4, 2) := dk_21 hN_cX3_colour rfl rfl rfl
theorem dX3_colour_167 : decode cX3_colour 167 = .ok (.ishl, 1) := dk_120 hN_cX3_colour rfl rfl
theorem dX3_colour_168 : decode cX3_colour 168 = .ok (.iconst (-1), 1) := dk_2 hN_cX3_colour rfl rfl
theorem dX3_colour_169 : decode cX3_colour 169 = .ok (.ixor, 1) := dk_130 hN_cX3_colour rfl rfl
theorem dX3_colour_170 : decode cX3_colour 170 = .ok (.iand, 1) := dk_126 hN_cX3_colour rfl rfl
theorem dX3_colour_171 : decode cX3_colour 171 = .ok (.aload_n 0, 1) := dk_42 hN_cX3_colour rfl rfl
theorem dX3_colour_172 : decode cX3_colour 172 = .ok (.getfield 9, 3) := dk_180 hN_cX3_colour rfl rfl rfl
theorem dX3_colour_175 : decode cX3_colour 175 = .ok (.iload 4, 2) := dk_21 hN_cX3_colour rfl rfl rfl
theorem dX3_colour_177 : decode cX3_colour 177 = .ok (.iaload, 1) := dk_46 hN_cX3_colour rfl rfl
theorem dX3_colour_178 : decode cX3_colour 178 = .ok (.iconst (-1), 1) := dk_2 hN_cX3_colour rfl rfl
theorem dX3_colour_179 : decode cX3_colour 179 = .ok (.ixor, 1) := dk_130 hN_cX3_colour rfl rfl
theorem dX3_colour_180 : decode cX3_colour 180 = .ok (.iand, 1) := dk_126 hN_cX3_colour rfl rfl
theorem dX3_colour_181 : decode cX3_colour 181 = .ok (.iload_n 2, 1) := dk_28 hN_cX3_colour rfl rfl
theorem dX3_colour_182 : decode cX3_colour 182 = .ok (.iconst 1, 1) := dk_4 hN_cX3_colour rfl rfl
theorem dX3_colour_183 : decode cX3_colour 183 = .ok (.iload 4, 2) := dk_21 hN_cX3_colour rfl rfl rfl
theorem dX3_colour_185 : decode cX3_colour 185 = .ok (.ishl, 1) := dk_120 hN_cX3_colour rfl rfl
theorem dX3_colour_186 : decode cX3_colour 186 = .ok (.ior, 1) := dk_128 hN_cX3_colour rfl rfl
theorem dX3_colour_187 : decode cX3_colour 187 = .ok (.iload_n 3, 1) := dk_29 hN_cX3_colour rfl rfl
theorem dX3_colour_188 : decode cX3_colour 188 = .ok (.iconst 1, 1) := dk_4 hN_cX3_colour rfl rfl
theorem dX3_colour_189 : decode cX3_colour 189 = .ok (.iadd, 1) := dk_96 hN_cX3_colour rfl rfl
theorem dX3_colour_190 : decode cX3_colour 190 = .ok (.invokevirtual 71, 3) := dk_182 hN_cX3_colour rfl rfl rfl
theorem dX3_colour_193 : decode cX3_colour 193 = .ok (.aload_n 0, 1) := dk_42 hN_cX3_colour rfl rfl
theorem dX3_colour_194 : decode cX3_colour 194 = .ok (.iload_n 1, 1) := dk_27 hN_cX3_colour rfl rfl
theorem dX3_colour_195 : decode cX3_colour 195 = .ok (.iconst 1, 1) := dk_4 hN_cX3_colour rfl rfl
theorem dX3_colour_196 : decode cX3_colour 196 = .ok (.iload 4, 2) := dk_21 hN_cX3_colour rfl rfl rfl
theorem dX3_colour_198 : decode cX3_colour 198 = .ok (.ishl, 1) := dk_120 hN_cX3_colour rfl rfl
theorem dX3_colour_199 : decode cX3_colour 199 = .ok (.iconst (-1), 1) := dk_2 hN_cX3_colour rfl rfl
theorem dX3_colour_200 : decode cX3_colour 200 = .ok (.ixor, 1) := dk_130 hN_cX3_colour rfl rfl
theorem dX3_colour_201 : decode cX3_colour 201 = .ok (.iand, 1) := dk_126 hN_cX3_colour rfl rfl
theorem dX3_colour_202 : decode cX3_colour 202 = .ok (.iload_n 2, 1) := dk_28 hN_cX3_colour rfl rfl
theorem dX3_colour_203 : decode cX3_colour 203 = .ok (.iload_n 3, 1) := dk_29 hN_cX3_colour rfl rfl
theorem dX3_colour_204 : decode cX3_colour 204 = .ok (.iconst 1, 1) := dk_4 hN_cX3_colour rfl rfl
theorem dX3_colour_205 : decode cX3_colour 205 = .ok (.iadd, 1) := dk_96 hN_cX3_colour rfl rfl
theorem dX3_colour_206 : decode cX3_colour 206 = .ok (.invokevirtual 71, 3) := dk_182 hN_cX3_colour rfl rfl rfl
theorem dX3_colour_209 : decode cX3_colour 209 = .ok (.return_, 1) := dk_177 hN_cX3_colour rfl rfl
theorem dX3_colour_124 : decode cX3_colour 124 = .ok (.iload_n 1, 1) := dk_27 hN_cX3_colour rfl rfl
theorem dX3_colour_125 : decode cX3_colour 125 = .ok (.invokestatic 78, 3) := dk_184 hN_cX3_colour rfl rfl rfl
theorem dX3_colour_128 : decode cX3_colour 128 = .ok (.istore 5, 2) := dk_54 hN_cX3_colour rfl rfl rfl
theorem dX3_colour_130 : decode cX3_colour 130 = .ok (.aload_n 0, 1) := dk_42 hN_cX3_colour rfl rfl
theorem dX3_colour_131 : decode cX3_colour 131 = .ok (.dup, 1) := dk_89 hN_cX3_colour rfl rfl
theorem dX3_colour_132 : decode cX3_colour 132 = .ok (.getfield 68, 3) := dk_180 hN_cX3_colour rfl rfl rfl
theorem dX3_colour_135 : decode cX3_colour 135 = .ok (.iconst 1, 1) := dk_4 hN_cX3_colour rfl rfl
theorem dX3_colour_136 : decode cX3_colour 136 = .ok (.iload 5, 2) := dk_21 hN_cX3_colour rfl rfl rfl
theorem dX3_colour_138 : decode cX3_colour 138 = .ok (.ishl, 1) := dk_120 hN_cX3_colour rfl rfl
theorem dX3_colour_139 : decode cX3_colour 139 = .ok (.iadd, 1) := dk_96 hN_cX3_colour rfl rfl
theorem dX3_colour_140 : decode cX3_colour 140 = .ok (.putfield 68, 3) := dk_181 hN_cX3_colour rfl rfl rfl
theorem dX3_colour_143 : decode cX3_colour 143 = .ok (.aload_n 0, 1) := dk_42 hN_cX3_colour rfl rfl
theorem dX3_colour_144 : decode cX3_colour 144 = .ok (.aload_n 0, 1) := dk_42 hN_cX3_colour rfl rfl
theorem dX3_colour_145 : decode cX3_colour 145 = .ok (.getfield 53, 3) := dk_180 hN_cX3_colour rfl rfl rfl
theorem dX3_colour_148 : decode cX3_colour 148 = .ok (.iload_n 2, 1) := dk_28 hN_cX3_colour rfl rfl
theorem dX3_colour_149 : decode cX3_colour 149 = .ok (.invokestatic 78, 3) := dk_184 hN_cX3_colour rfl rfl rfl
theorem dX3_colour_152 : decode cX3_colour 152 = .ok (.iload 5, 2) := dk_21 hN_cX3_colour rfl rfl rfl
theorem dX3_colour_154 : decode cX3_colour 154 = .ok (.iadd, 1) := dk_96 hN_cX3_colour rfl rfl
theorem dX3_colour_155 : decode cX3_colour 155 = .ok (.invokestatic 87, 3) := dk_184 hN_cX3_colour rfl rfl rfl
theorem dX3_colour_158 : decode cX3_colour 158 = .ok (.putfield 53, 3) := dk_181 hN_cX3_colour rfl rfl rfl
theorem dX3_colour_161 : decode cX3_colour 161 = .ok (.return_, 1) := dk_177 hN_cX3_colour rfl rfl
theorem dX3_colour_26 : decode cX3_colour 26 = .ok (.aload_n 0, 1) := dk_42 hN_cX3_colour rfl rfl
theorem dX3_colour_27 : decode cX3_colour 27 = .ok (.getfield 15, 3) := dk_180 hN_cX3_colour rfl rfl rfl
theorem dX3_colour_30 : decode cX3_colour 30 = .ok (.iload 5, 2) := dk_21 hN_cX3_colour rfl rfl rfl
theorem dX3_colour_32 : decode cX3_colour 32 = .ok (.iaload, 1) := dk_46 hN_cX3_colour rfl rfl
theorem dX3_colour_33 : decode cX3_colour 33 = .ok (.istore 6, 2) := dk_54 hN_cX3_colour rfl rfl rfl
theorem dX3_colour_35 : decode cX3_colour 35 = .ok (.iload 6, 2) := dk_21 hN_cX3_colour rfl rfl rfl
theorem dX3_colour_37 : decode cX3_colour 37 = .ok (.aload_n 0, 1) := dk_42 hN_cX3_colour rfl rfl
theorem dX3_colour_38 : decode cX3_colour 38 = .ok (.getfield 65, 3) := dk_180 hN_cX3_colour rfl rfl rfl
theorem dX3_colour_41 : decode cX3_colour 41 = .ok (.iconst (-1), 1) := dk_2 hN_cX3_colour rfl rfl
theorem dX3_colour_42 : decode cX3_colour 42 = .ok (.ixor, 1) := dk_130 hN_cX3_colour rfl rfl
theorem dX3_colour_43 : decode cX3_colour 43 = .ok (.iand, 1) := dk_126 hN_cX3_colour rfl rfl
theorem dX3_colour_44 : decode cX3_colour 44 = .ok (.ifCond .ne 69, 3) := dk_154 hN_cX3_colour rfl rfl rfl
theorem dX3_colour_113 : decode cX3_colour 113 = .ok (.iinc 5 1, 3) := dk_132 hN_cX3_colour rfl rfl rfl rfl
theorem dX3_colour_116 : decode cX3_colour 116 = .ok (.goto (-99), 3) := dk_167 hN_cX3_colour rfl rfl rfl
theorem dX3_colour_47 : decode cX3_colour 47 = .ok (.iload 6, 2) := dk_21 hN_cX3_colour rfl rfl rfl
theorem dX3_colour_49 : decode cX3_colour 49 = .ok (.iload_n 2, 1) := dk_28 hN_cX3_colour rfl rfl
theorem dX3_colour_50 : decode cX3_colour 50 = .ok (.iand, 1) := dk_126 hN_cX3_colour rfl rfl
theorem dX3_colour_51 : decode cX3_colour 51 = .ok (.ifCond .ne 62, 3) := dk_154 hN_cX3_colour rfl rfl rfl
theorem dX3_colour_54 : decode cX3_colour 54 = .ok (.iload 6, 2) := dk_21 hN_cX3_colour rfl rfl rfl
theorem dX3_colour_56 : decode cX3_colour 56 = .ok (.iload_n 1, 1) := dk_27 hN_cX3_colour rfl rfl
theorem dX3_colour_57 : decode cX3_colour 57 = .ok (.iand, 1) := dk_126 hN_cX3_colour rfl rfl
theorem dX3_colour_58 : decode cX3_colour 58 = .ok (.invokestatic 78, 3) := dk_184 hN_cX3_colour rfl rfl rfl
theorem dX3_colour_61 : decode cX3_colour 61 = .ok (.istore 7, 2) := dk_54 hN_cX3_colour rfl rfl rfl
theorem dX3_colour_63 : decode cX3_colour 63 = .ok (.iload 7, 2) := dk_21 hN_cX3_colour rfl rfl rfl
theorem dX3_colour_65 : decode cX3_colour 65 = .ok (.ifCond .ne 4, 3) := dk_154 hN_cX3_colour rfl rfl rfl
theorem dX3_colour_69 : decode cX3_colour 69 = .ok (.iload 7, 2) := dk_21 hN_cX3_colour rfl rfl rfl
theorem dX3_colour_71 : decode cX3_colour 71 = .ok (.iconst 1, 1) := dk_4 hN_cX3_colour rfl rfl
theorem dX3_colour_72 : decode cX3_colour 72 = .ok (.if_icmp .ne 41, 3) := dk_160 hN_cX3_colour rfl rfl rfl
theorem dX3_colour_75 : decode cX3_colour 75 = .ok (.iload 6, 2) := dk_21 hN_cX3_colour rfl rfl rfl
theorem dX3_colour_77 : decode cX3_colour 77 = .ok (.iload_n 1, 1) := dk_27 hN_cX3_colour rfl rfl
theorem dX3_colour_78 : decode cX3_colour 78 = .ok (.iand, 1) := dk_126 hN_cX3_colour rfl rfl
theorem dX3_colour_79 : decode cX3_colour 79 = .ok (.istore 8, 2) := dk_54 hN_cX3_colour rfl rfl rfl
theorem dX3_colour_81 : decode cX3_colour 81 = .ok (.aload_n 0, 1) := dk_42 hN_cX3_colour rfl rfl
theorem dX3_colour_82 : decode cX3_colour 82 = .ok (.iload_n 1, 1) := dk_27 hN_cX3_colour rfl rfl
theorem dX3_colour_83 : decode cX3_colour 83 = .ok (.iload 8, 2) := dk_21 hN_cX3_colour rfl rfl rfl
theorem dX3_colour_85 : decode cX3_colour 85 = .ok (.iconst (-1), 1) := dk_2 hN_cX3_colour rfl rfl
theorem dX3_colour_86 : decode cX3_colour 86 = .ok (.ixor, 1) := dk_130 hN_cX3_colour rfl rfl
theorem dX3_colour_87 : decode cX3_colour 87 = .ok (.iand, 1) := dk_126 hN_cX3_colour rfl rfl
theorem dX3_colour_88 : decode cX3_colour 88 = .ok (.aload_n 0, 1) := dk_42 hN_cX3_colour rfl rfl
theorem dX3_colour_89 : decode cX3_colour 89 = .ok (.getfield 9, 3) := dk_180 hN_cX3_colour rfl rfl rfl
theorem dX3_colour_92 : decode cX3_colour 92 = .ok (.iload 8, 2) := dk_21 hN_cX3_colour rfl rfl rfl
theorem dX3_colour_94 : decode cX3_colour 94 = .ok (.iconst 0, 1) := dk_3 hN_cX3_colour rfl rfl
theorem dX3_colour_95 : decode cX3_colour 95 = .ok (.invokestatic 83, 3) := dk_184 hN_cX3_colour rfl rfl rfl
theorem dX3_colour_98 : decode cX3_colour 98 = .ok (.iaload, 1) := dk_46 hN_cX3_colour rfl rfl
theorem dX3_colour_99 : decode cX3_colour 99 = .ok (.iconst (-1), 1) := dk_2 hN_cX3_colour rfl rfl
theorem dX3_colour_100 : decode cX3_colour 100 = .ok (.ixor, 1) := dk_130 hN_cX3_colour rfl rfl
theorem dX3_colour_101 : decode cX3_colour 101 = .ok (.iand, 1) := dk_126 hN_cX3_colour rfl rfl
theorem dX3_colour_102 : decode cX3_colour 102 = .ok (.iload_n 2, 1) := dk_28 hN_cX3_colour rfl rfl
theorem dX3_colour_103 : decode cX3_colour 103 = .ok (.iload 8, 2) := dk_21 hN_cX3_colour rfl rfl rfl
theorem dX3_colour_105 : decode cX3_colour 105 = .ok (.ior, 1) := dk_128 hN_cX3_colour rfl rfl
theorem dX3_colour_106 : decode cX3_colour 106 = .ok (.iload_n 3, 1) := dk_29 hN_cX3_colour rfl rfl
theorem dX3_colour_107 : decode cX3_colour 107 = .ok (.iconst 1, 1) := dk_4 hN_cX3_colour rfl rfl
theorem dX3_colour_108 : decode cX3_colour 108 = .ok (.iadd, 1) := dk_96 hN_cX3_colour rfl rfl
theorem dX3_colour_109 : decode cX3_colour 109 = .ok (.invokevirtual 71, 3) := dk_182 hN_cX3_colour rfl rfl rfl
theorem dX3_colour_112 : decode cX3_colour 112 = .ok (.return_, 1) := dk_177 hN_cX3_colour rfl rfl
theorem dX3_colour_68 : decode cX3_colour 68 = .ok (.return_, 1) := dk_177 hN_cX3_colour rfl rfl
theorem dX3_mostMet_0 : decode cX3_mostMet 0 = .ok (.iconst (-1), 1) := dk_2 hN_cX3_mostMet rfl rfl
theorem dX3_mostMet_1 : decode cX3_mostMet 1 = .ok (.istore_n 2, 1) := dk_61 hN_cX3_mostMet rfl rfl
theorem dX3_mostMet_2 : decode cX3_mostMet 2 = .ok (.iconst 0, 1) := dk_3 hN_cX3_mostMet rfl rfl
theorem dX3_mostMet_3 : decode cX3_mostMet 3 = .ok (.istore_n 3, 1) := dk_62 hN_cX3_mostMet rfl rfl
theorem dX3_mostMet_4 : decode cX3_mostMet 4 = .ok (.iconst 0, 1) := dk_3 hN_cX3_mostMet rfl rfl
theorem dX3_mostMet_5 : decode cX3_mostMet 5 = .ok (.istore 4, 2) := dk_54 hN_cX3_mostMet rfl rfl rfl
theorem dX3_mostMet_7 : decode cX3_mostMet 7 = .ok (.iload 4, 2) := dk_21 hN_cX3_mostMet rfl rfl rfl
theorem dX3_mostMet_9 : decode cX3_mostMet 9 = .ok (.aload_n 0, 1) := dk_42 hN_cX3_mostMet rfl rfl
theorem dX3_mostMet_10 : decode cX3_mostMet 10 = .ok (.getfield 24, 3) := dk_180 hN_cX3_mostMet rfl rfl rfl
theorem dX3_mostMet_13 : decode cX3_mostMet 13 = .ok (.if_icmp .ge 50, 3) := dk_162 hN_cX3_mostMet rfl rfl rfl
theorem dX3_mostMet_63 : decode cX3_mostMet 63 = .ok (.iload_n 2, 1) := dk_28 hN_cX3_mostMet rfl rfl
theorem dX3_mostMet_64 : decode cX3_mostMet 64 = .ok (.ireturn, 1) := dk_172 hN_cX3_mostMet rfl rfl
theorem dX3_mostMet_16 : decode cX3_mostMet 16 = .ok (.iload_n 1, 1) := dk_27 hN_cX3_mostMet rfl rfl
theorem dX3_mostMet_17 : decode cX3_mostMet 17 = .ok (.iload 4, 2) := dk_21 hN_cX3_mostMet rfl rfl rfl
theorem dX3_mostMet_19 : decode cX3_mostMet 19 = .ok (.ishr, 1) := dk_122 hN_cX3_mostMet rfl rfl
theorem dX3_mostMet_20 : decode cX3_mostMet 20 = .ok (.iconst 1, 1) := dk_4 hN_cX3_mostMet rfl rfl
theorem dX3_mostMet_21 : decode cX3_mostMet 21 = .ok (.iand, 1) := dk_126 hN_cX3_mostMet rfl rfl
theorem dX3_mostMet_22 : decode cX3_mostMet 22 = .ok (.ifCond .eq 35, 3) := dk_153 hN_cX3_mostMet rfl rfl rfl
theorem dX3_mostMet_57 : decode cX3_mostMet 57 = .ok (.iinc 4 1, 3) := dk_132 hN_cX3_mostMet rfl rfl rfl rfl
theorem dX3_mostMet_60 : decode cX3_mostMet 60 = .ok (.goto (-53), 3) := dk_167 hN_cX3_mostMet rfl rfl rfl
theorem dX3_mostMet_25 : decode cX3_mostMet 25 = .ok (.iload_n 1, 1) := dk_27 hN_cX3_mostMet rfl rfl
theorem dX3_mostMet_26 : decode cX3_mostMet 26 = .ok (.aload_n 0, 1) := dk_42 hN_cX3_mostMet rfl rfl
theorem dX3_mostMet_27 : decode cX3_mostMet 27 = .ok (.getfield 9, 3) := dk_180 hN_cX3_mostMet rfl rfl rfl
theorem dX3_mostMet_30 : decode cX3_mostMet 30 = .ok (.iload 4, 2) := dk_21 hN_cX3_mostMet rfl rfl rfl
theorem dX3_mostMet_32 : decode cX3_mostMet 32 = .ok (.iaload, 1) := dk_46 hN_cX3_mostMet rfl rfl
theorem dX3_mostMet_33 : decode cX3_mostMet 33 = .ok (.iand, 1) := dk_126 hN_cX3_mostMet rfl rfl
theorem dX3_mostMet_34 : decode cX3_mostMet 34 = .ok (.invokestatic 78, 3) := dk_184 hN_cX3_mostMet rfl rfl rfl
theorem dX3_mostMet_37 : decode cX3_mostMet 37 = .ok (.iload_n 3, 1) := dk_29 hN_cX3_mostMet rfl rfl
theorem dX3_mostMet_38 : decode cX3_mostMet 38 = .ok (.if_icmp .le 19, 3) := dk_164 hN_cX3_mostMet rfl rfl rfl
theorem dX3_mostMet_41 : decode cX3_mostMet 41 = .ok (.iload 4, 2) := dk_21 hN_cX3_mostMet rfl rfl rfl
theorem dX3_mostMet_43 : decode cX3_mostMet 43 = .ok (.istore_n 2, 1) := dk_61 hN_cX3_mostMet rfl rfl
theorem dX3_mostMet_44 : decode cX3_mostMet 44 = .ok (.iload_n 1, 1) := dk_27 hN_cX3_mostMet rfl rfl
theorem dX3_mostMet_45 : decode cX3_mostMet 45 = .ok (.aload_n 0, 1) := dk_42 hN_cX3_mostMet rfl rfl
theorem dX3_mostMet_46 : decode cX3_mostMet 46 = .ok (.getfield 9, 3) := dk_180 hN_cX3_mostMet rfl rfl rfl
theorem dX3_mostMet_49 : decode cX3_mostMet 49 = .ok (.iload 4, 2) := dk_21 hN_cX3_mostMet rfl rfl rfl
theorem dX3_mostMet_51 : decode cX3_mostMet 51 = .ok (.iaload, 1) := dk_46 hN_cX3_mostMet rfl rfl
theorem dX3_mostMet_52 : decode cX3_mostMet 52 = .ok (.iand, 1) := dk_126 hN_cX3_mostMet rfl rfl
theorem dX3_mostMet_53 : decode cX3_mostMet 53 = .ok (.invokestatic 78, 3) := dk_184 hN_cX3_mostMet rfl rfl rfl
theorem dX3_mostMet_56 : decode cX3_mostMet 56 = .ok (.istore_n 3, 1) := dk_62 hN_cX3_mostMet rfl rfl
theorem dX9_open_0 : decode cX9_open 0 = .ok (.aload_n 0, 1) := dk_42 hN_cX9_open rfl rfl
theorem dX9_open_1 : decode cX9_open 1 = .ok (.aload_n 1, 1) := dk_43 hN_cX9_open rfl rfl
theorem dX9_open_2 : decode cX9_open 2 = .ok (.getfield 31, 3) := dk_180 hN_cX9_open rfl rfl rfl
theorem dX9_open_5 : decode cX9_open 5 = .ok (.putfield 37, 3) := dk_181 hN_cX9_open rfl rfl rfl
theorem dX9_open_8 : decode cX9_open 8 = .ok (.aload_n 0, 1) := dk_42 hN_cX9_open rfl rfl
theorem dX9_open_9 : decode cX9_open 9 = .ok (.iconst 0, 1) := dk_3 hN_cX9_open rfl rfl
theorem dX9_open_10 : decode cX9_open 10 = .ok (.putfield 38, 3) := dk_181 hN_cX9_open rfl rfl rfl
theorem dX9_open_13 : decode cX9_open 13 = .ok (.aload_n 0, 1) := dk_42 hN_cX9_open rfl rfl
theorem dX9_open_14 : decode cX9_open 14 = .ok (.iconst 0, 1) := dk_3 hN_cX9_open rfl rfl
theorem dX9_open_15 : decode cX9_open 15 = .ok (.putfield 41, 3) := dk_181 hN_cX9_open rfl rfl rfl
theorem dX9_open_18 : decode cX9_open 18 = .ok (.iconst 0, 1) := dk_3 hN_cX9_open rfl rfl
theorem dX9_open_19 : decode cX9_open 19 = .ok (.istore_n 2, 1) := dk_61 hN_cX9_open rfl rfl
theorem dX9_open_20 : decode cX9_open 20 = .ok (.iload_n 2, 1) := dk_28 hN_cX9_open rfl rfl
theorem dX9_open_21 : decode cX9_open 21 = .ok (.aload_n 0, 1) := dk_42 hN_cX9_open rfl rfl
theorem dX9_open_22 : decode cX9_open 22 = .ok (.getfield 37, 3) := dk_180 hN_cX9_open rfl rfl rfl
theorem dX9_open_25 : decode cX9_open 25 = .ok (.if_icmp .ge 105, 3) := dk_162 hN_cX9_open rfl rfl rfl
theorem dX9_open_130 : decode cX9_open 130 = .ok (.return_, 1) := dk_177 hN_cX9_open rfl rfl
theorem dX9_open_28 : decode cX9_open 28 = .ok (.aload_n 1, 1) := dk_43 hN_cX9_open rfl rfl
theorem dX9_open_29 : decode cX9_open 29 = .ok (.getfield 45, 3) := dk_180 hN_cX9_open rfl rfl rfl
theorem dX9_open_32 : decode cX9_open 32 = .ok (.iload_n 2, 1) := dk_28 hN_cX9_open rfl rfl
theorem dX9_open_33 : decode cX9_open 33 = .ok (.iaload, 1) := dk_46 hN_cX9_open rfl rfl
theorem dX9_open_34 : decode cX9_open 34 = .ok (.istore_n 3, 1) := dk_62 hN_cX9_open rfl rfl
theorem dX9_open_35 : decode cX9_open 35 = .ok (.iconst 0, 1) := dk_3 hN_cX9_open rfl rfl
theorem dX9_open_36 : decode cX9_open 36 = .ok (.istore 4, 2) := dk_54 hN_cX9_open rfl rfl rfl
theorem dX9_open_38 : decode cX9_open 38 = .ok (.iload 4, 2) := dk_21 hN_cX9_open rfl rfl rfl
theorem dX9_open_40 : decode cX9_open 40 = .ok (.iload_n 3, 1) := dk_29 hN_cX9_open rfl rfl
theorem dX9_open_41 : decode cX9_open 41 = .ok (.if_icmp .ge 83, 3) := dk_162 hN_cX9_open rfl rfl rfl
theorem dX9_open_124 : decode cX9_open 124 = .ok (.iinc 2 1, 3) := dk_132 hN_cX9_open rfl rfl rfl rfl
theorem dX9_open_127 : decode cX9_open 127 = .ok (.goto (-107), 3) := dk_167 hN_cX9_open rfl rfl rfl
theorem dX9_open_44 : decode cX9_open 44 = .ok (.aload_n 0, 1) := dk_42 hN_cX9_open rfl rfl
theorem dX9_open_45 : decode cX9_open 45 = .ok (.getfield 9, 3) := dk_180 hN_cX9_open rfl rfl rfl
theorem dX9_open_48 : decode cX9_open 48 = .ok (.aload_n 0, 1) := dk_42 hN_cX9_open rfl rfl
theorem dX9_open_49 : decode cX9_open 49 = .ok (.getfield 38, 3) := dk_180 hN_cX9_open rfl rfl rfl
theorem dX9_open_52 : decode cX9_open 52 = .ok (.aload_n 1, 1) := dk_43 hN_cX9_open rfl rfl
theorem dX9_open_53 : decode cX9_open 53 = .ok (.getfield 48, 3) := dk_180 hN_cX9_open rfl rfl rfl
theorem dX9_open_56 : decode cX9_open 56 = .ok (.bipush 6, 2) := dk_16 hN_cX9_open rfl rfl rfl
theorem dX9_open_58 : decode cX9_open 58 = .ok (.iload_n 2, 1) := dk_28 hN_cX9_open rfl rfl
theorem dX9_open_59 : decode cX9_open 59 = .ok (.imul, 1) := dk_104 hN_cX9_open rfl rfl
theorem dX9_open_60 : decode cX9_open 60 = .ok (.iload 4, 2) := dk_21 hN_cX9_open rfl rfl rfl
theorem dX9_open_62 : decode cX9_open 62 = .ok (.iadd, 1) := dk_96 hN_cX9_open rfl rfl
theorem dX9_open_63 : decode cX9_open 63 = .ok (.iaload, 1) := dk_46 hN_cX9_open rfl rfl
theorem dX9_open_64 : decode cX9_open 64 = .ok (.iastore, 1) := dk_79 hN_cX9_open rfl rfl
theorem dX9_open_65 : decode cX9_open 65 = .ok (.aload_n 0, 1) := dk_42 hN_cX9_open rfl rfl
theorem dX9_open_66 : decode cX9_open 66 = .ok (.getfield 15, 3) := dk_180 hN_cX9_open rfl rfl rfl
theorem dX9_open_69 : decode cX9_open 69 = .ok (.aload_n 0, 1) := dk_42 hN_cX9_open rfl rfl
theorem dX9_open_70 : decode cX9_open 70 = .ok (.getfield 38, 3) := dk_180 hN_cX9_open rfl rfl rfl
theorem dX9_open_73 : decode cX9_open 73 = .ok (.aload_n 1, 1) := dk_43 hN_cX9_open rfl rfl
theorem dX9_open_74 : decode cX9_open 74 = .ok (.getfield 49, 3) := dk_180 hN_cX9_open rfl rfl rfl
theorem dX9_open_77 : decode cX9_open 77 = .ok (.bipush 6, 2) := dk_16 hN_cX9_open rfl rfl rfl
theorem dX9_open_79 : decode cX9_open 79 = .ok (.iload_n 2, 1) := dk_28 hN_cX9_open rfl rfl
theorem dX9_open_80 : decode cX9_open 80 = .ok (.imul, 1) := dk_104 hN_cX9_open rfl rfl
theorem dX9_open_81 : decode cX9_open 81 = .ok (.iload 4, 2) := dk_21 hN_cX9_open rfl rfl rfl
theorem dX9_open_83 : decode cX9_open 83 = .ok (.iadd, 1) := dk_96 hN_cX9_open rfl rfl
theorem dX9_open_84 : decode cX9_open 84 = .ok (.iaload, 1) := dk_46 hN_cX9_open rfl rfl
theorem dX9_open_85 : decode cX9_open 85 = .ok (.iastore, 1) := dk_79 hN_cX9_open rfl rfl
theorem dX9_open_86 : decode cX9_open 86 = .ok (.aload_n 0, 1) := dk_42 hN_cX9_open rfl rfl
theorem dX9_open_87 : decode cX9_open 87 = .ok (.getfield 18, 3) := dk_180 hN_cX9_open rfl rfl rfl
theorem dX9_open_90 : decode cX9_open 90 = .ok (.aload_n 0, 1) := dk_42 hN_cX9_open rfl rfl
theorem dX9_open_91 : decode cX9_open 91 = .ok (.getfield 38, 3) := dk_180 hN_cX9_open rfl rfl rfl
theorem dX9_open_94 : decode cX9_open 94 = .ok (.iload 4, 2) := dk_21 hN_cX9_open rfl rfl rfl
theorem dX9_open_96 : decode cX9_open 96 = .ok (.iload_n 3, 1) := dk_29 hN_cX9_open rfl rfl
theorem dX9_open_97 : decode cX9_open 97 = .ok (.iconst 1, 1) := dk_4 hN_cX9_open rfl rfl
theorem dX9_open_98 : decode cX9_open 98 = .ok (.isub, 1) := dk_100 hN_cX9_open rfl rfl
theorem dX9_open_99 : decode cX9_open 99 = .ok (.if_icmp .ne 7, 3) := dk_160 hN_cX9_open rfl rfl rfl
theorem dX9_open_106 : decode cX9_open 106 = .ok (.iconst 0, 1) := dk_3 hN_cX9_open rfl rfl
theorem dX9_open_107 : decode cX9_open 107 = .ok (.bastore, 1) := dk_84 hN_cX9_open rfl rfl
theorem dX9_open_108 : decode cX9_open 108 = .ok (.aload_n 0, 1) := dk_42 hN_cX9_open rfl rfl
theorem dX9_open_109 : decode cX9_open 109 = .ok (.dup, 1) := dk_89 hN_cX9_open rfl rfl
theorem dX9_open_110 : decode cX9_open 110 = .ok (.getfield 38, 3) := dk_180 hN_cX9_open rfl rfl rfl
theorem dX9_open_113 : decode cX9_open 113 = .ok (.iconst 1, 1) := dk_4 hN_cX9_open rfl rfl
theorem dX9_open_114 : decode cX9_open 114 = .ok (.iadd, 1) := dk_96 hN_cX9_open rfl rfl
theorem dX9_open_115 : decode cX9_open 115 = .ok (.putfield 38, 3) := dk_181 hN_cX9_open rfl rfl rfl
theorem dX9_open_118 : decode cX9_open 118 = .ok (.iinc 4 1, 3) := dk_132 hN_cX9_open rfl rfl rfl rfl
theorem dX9_open_121 : decode cX9_open 121 = .ok (.goto (-83), 3) := dk_167 hN_cX9_open rfl rfl rfl
theorem dX9_open_102 : decode cX9_open 102 = .ok (.iconst 1, 1) := dk_4 hN_cX9_open rfl rfl
theorem dX9_open_103 : decode cX9_open 103 = .ok (.goto 4, 3) := dk_167 hN_cX9_open rfl rfl rfl
theorem dX9_work_0 : decode cX9_work 0 = .ok (.aload_n 0, 1) := dk_42 hN_cX9_work rfl rfl
theorem dX9_work_1 : decode cX9_work 1 = .ok (.getfield 41, 3) := dk_180 hN_cX9_work rfl rfl rfl
theorem dX9_work_4 : decode cX9_work 4 = .ok (.ifCond .eq 4, 3) := dk_153 hN_cX9_work rfl rfl rfl
theorem dX9_work_8 : decode cX9_work 8 = .ok (.aload_n 0, 1) := dk_42 hN_cX9_work rfl rfl
theorem dX9_work_9 : decode cX9_work 9 = .ok (.iconst 1, 1) := dk_4 hN_cX9_work rfl rfl
theorem dX9_work_10 : decode cX9_work 10 = .ok (.putfield 41, 3) := dk_181 hN_cX9_work rfl rfl rfl
theorem dX9_work_13 : decode cX9_work 13 = .ok (.iconst 1, 1) := dk_4 hN_cX9_work rfl rfl
theorem dX9_work_14 : decode cX9_work 14 = .ok (.istore_n 1, 1) := dk_60 hN_cX9_work rfl rfl
theorem dX9_work_7 : decode cX9_work 7 = .ok (.return_, 1) := dk_177 hN_cX9_work rfl rfl
theorem dX9_work_15 : decode cX9_work 15 = .ok (.iload_n 1, 1) := dk_27 hN_cX9_work rfl rfl
theorem dX9_work_16 : decode cX9_work 16 = .ok (.iconst 3, 1) := dk_6 hN_cX9_work rfl rfl
theorem dX9_work_17 : decode cX9_work 17 = .ok (.if_icmp .gt 57, 3) := dk_163 hN_cX9_work rfl rfl rfl
theorem dX9_work_74 : decode cX9_work 74 = .ok (.aload_n 0, 1) := dk_42 hN_cX9_work rfl rfl
theorem dX9_work_75 : decode cX9_work 75 = .ok (.iconst 0, 1) := dk_3 hN_cX9_work rfl rfl
theorem dX9_work_76 : decode cX9_work 76 = .ok (.putfield 50, 3) := dk_181 hN_cX9_work rfl rfl rfl
theorem dX9_work_79 : decode cX9_work 79 = .ok (.return_, 1) := dk_177 hN_cX9_work rfl rfl
theorem dX9_work_20 : decode cX9_work 20 = .ok (.aload_n 0, 1) := dk_42 hN_cX9_work rfl rfl
theorem dX9_work_21 : decode cX9_work 21 = .ok (.iload_n 1, 1) := dk_27 hN_cX9_work rfl rfl
theorem dX9_work_22 : decode cX9_work 22 = .ok (.putfield 50, 3) := dk_181 hN_cX9_work rfl rfl rfl
theorem dX9_work_25 : decode cX9_work 25 = .ok (.iconst 0, 1) := dk_3 hN_cX9_work rfl rfl
theorem dX9_work_26 : decode cX9_work 26 = .ok (.istore_n 2, 1) := dk_61 hN_cX9_work rfl rfl
theorem dX9_work_27 : decode cX9_work 27 = .ok (.iload_n 2, 1) := dk_28 hN_cX9_work rfl rfl
theorem dX9_work_28 : decode cX9_work 28 = .ok (.bipush 18, 2) := dk_16 hN_cX9_work rfl rfl rfl
theorem dX9_work_30 : decode cX9_work 30 = .ok (.if_icmp .ge 25, 3) := dk_162 hN_cX9_work rfl rfl rfl
theorem dX9_work_55 : decode cX9_work 55 = .ok (.aload_n 0, 1) := dk_42 hN_cX9_work rfl rfl
theorem dX9_work_56 : decode cX9_work 56 = .ok (.iconst 0, 1) := dk_3 hN_cX9_work rfl rfl
theorem dX9_work_57 : decode cX9_work 57 = .ok (.iconst 0, 1) := dk_3 hN_cX9_work rfl rfl
theorem dX9_work_58 : decode cX9_work 58 = .ok (.iconst 0, 1) := dk_3 hN_cX9_work rfl rfl
theorem dX9_work_59 : decode cX9_work 59 = .ok (.iconst 0, 1) := dk_3 hN_cX9_work rfl rfl
theorem dX9_work_60 : decode cX9_work 60 = .ok (.invokevirtual 53, 3) := dk_182 hN_cX9_work rfl rfl rfl
theorem dX9_work_63 : decode cX9_work 63 = .ok (.iconst (-1), 1) := dk_2 hN_cX9_work rfl rfl
theorem dX9_work_64 : decode cX9_work 64 = .ok (.if_icmp .ne 4, 3) := dk_160 hN_cX9_work rfl rfl rfl
theorem dX9_work_68 : decode cX9_work 68 = .ok (.iinc 1 1, 3) := dk_132 hN_cX9_work rfl rfl rfl rfl
theorem dX9_work_71 : decode cX9_work 71 = .ok (.goto (-56), 3) := dk_167 hN_cX9_work rfl rfl rfl
theorem dX9_work_67 : decode cX9_work 67 = .ok (.return_, 1) := dk_177 hN_cX9_work rfl rfl
theorem dX9_work_33 : decode cX9_work 33 = .ok (.aload_n 0, 1) := dk_42 hN_cX9_work rfl rfl
theorem dX9_work_34 : decode cX9_work 34 = .ok (.getfield 22, 3) := dk_180 hN_cX9_work rfl rfl rfl
theorem dX9_work_37 : decode cX9_work 37 = .ok (.iload_n 2, 1) := dk_28 hN_cX9_work rfl rfl
theorem dX9_work_38 : decode cX9_work 38 = .ok (.bipush (-2), 2) := dk_16 hN_cX9_work rfl rfl rfl
theorem dX9_work_40 : decode cX9_work 40 = .ok (.iastore, 1) := dk_79 hN_cX9_work rfl rfl
theorem dX9_work_41 : decode cX9_work 41 = .ok (.aload_n 0, 1) := dk_42 hN_cX9_work rfl rfl
theorem dX9_work_42 : decode cX9_work 42 = .ok (.getfield 25, 3) := dk_180 hN_cX9_work rfl rfl rfl
theorem dX9_work_45 : decode cX9_work 45 = .ok (.iload_n 2, 1) := dk_28 hN_cX9_work rfl rfl
theorem dX9_work_46 : decode cX9_work 46 = .ok (.bipush (-2), 2) := dk_16 hN_cX9_work rfl rfl rfl
theorem dX9_work_48 : decode cX9_work 48 = .ok (.iastore, 1) := dk_79 hN_cX9_work rfl rfl
theorem dX9_work_49 : decode cX9_work 49 = .ok (.iinc 2 1, 3) := dk_132 hN_cX9_work rfl rfl rfl rfl
theorem dX9_work_52 : decode cX9_work 52 = .ok (.goto (-25), 3) := dk_167 hN_cX9_work rfl rfl rfl
theorem dX9_entry_0 : decode cX9_entry 0 = .ok (.bipush 6, 2) := dk_16 hN_cX9_entry rfl rfl rfl
theorem dX9_entry_2 : decode cX9_entry 2 = .ok (.iload_n 1, 1) := dk_27 hN_cX9_entry rfl rfl
theorem dX9_entry_3 : decode cX9_entry 3 = .ok (.imul, 1) := dk_104 hN_cX9_entry rfl rfl
theorem dX9_entry_4 : decode cX9_entry 4 = .ok (.iload_n 2, 1) := dk_28 hN_cX9_entry rfl rfl
theorem dX9_entry_5 : decode cX9_entry 5 = .ok (.iadd, 1) := dk_96 hN_cX9_entry rfl rfl
theorem dX9_entry_6 : decode cX9_entry 6 = .ok (.istore 4, 2) := dk_54 hN_cX9_entry rfl rfl rfl
theorem dX9_entry_8 : decode cX9_entry 8 = .ok (.iload_n 3, 1) := dk_29 hN_cX9_entry rfl rfl
theorem dX9_entry_9 : decode cX9_entry 9 = .ok (.ifCond .eq 13, 3) := dk_153 hN_cX9_entry rfl rfl rfl
theorem dX9_entry_22 : decode cX9_entry 22 = .ok (.aload_n 0, 1) := dk_42 hN_cX9_entry rfl rfl
theorem dX9_entry_23 : decode cX9_entry 23 = .ok (.getfield 22, 3) := dk_180 hN_cX9_entry rfl rfl rfl
theorem dX9_entry_26 : decode cX9_entry 26 = .ok (.iload 4, 2) := dk_21 hN_cX9_entry rfl rfl rfl
theorem dX9_entry_28 : decode cX9_entry 28 = .ok (.iaload, 1) := dk_46 hN_cX9_entry rfl rfl
theorem dX9_entry_29 : decode cX9_entry 29 = .ok (.ireturn, 1) := dk_172 hN_cX9_entry rfl rfl
theorem dX9_entry_12 : decode cX9_entry 12 = .ok (.aload_n 0, 1) := dk_42 hN_cX9_entry rfl rfl
theorem dX9_entry_13 : decode cX9_entry 13 = .ok (.getfield 25, 3) := dk_180 hN_cX9_entry rfl rfl rfl
theorem dX9_entry_16 : decode cX9_entry 16 = .ok (.iload 4, 2) := dk_21 hN_cX9_entry rfl rfl rfl
theorem dX9_entry_18 : decode cX9_entry 18 = .ok (.iaload, 1) := dk_46 hN_cX9_entry rfl rfl
theorem dX9_entry_19 : decode cX9_entry 19 = .ok (.goto 10, 3) := dk_167 hN_cX9_entry rfl rfl rfl
theorem dX9_tell_0 : decode cX9_tell 0 = .ok (.iload_n 1, 1) := dk_27 hN_cX9_tell rfl rfl
theorem dX9_tell_1 : decode cX9_tell 1 = .ok (.aload_n 0, 1) := dk_42 hN_cX9_tell rfl rfl
theorem dX9_tell_2 : decode cX9_tell 2 = .ok (.getfield 38, 3) := dk_180 hN_cX9_tell rfl rfl rfl
theorem dX9_tell_5 : decode cX9_tell 5 = .ok (.if_icmp .lt 5, 3) := dk_161 hN_cX9_tell rfl rfl rfl
theorem dX9_tell_10 : decode cX9_tell 10 = .ok (.bipush 6, 2) := dk_16 hN_cX9_tell rfl rfl rfl
theorem dX9_tell_12 : decode cX9_tell 12 = .ok (.iload_n 2, 1) := dk_28 hN_cX9_tell rfl rfl
theorem dX9_tell_13 : decode cX9_tell 13 = .ok (.imul, 1) := dk_104 hN_cX9_tell rfl rfl
theorem dX9_tell_14 : decode cX9_tell 14 = .ok (.aload_n 0, 1) := dk_42 hN_cX9_tell rfl rfl
theorem dX9_tell_15 : decode cX9_tell 15 = .ok (.getfield 9, 3) := dk_180 hN_cX9_tell rfl rfl rfl
theorem dX9_tell_18 : decode cX9_tell 18 = .ok (.iload_n 1, 1) := dk_27 hN_cX9_tell rfl rfl
theorem dX9_tell_19 : decode cX9_tell 19 = .ok (.iaload, 1) := dk_46 hN_cX9_tell rfl rfl
theorem dX9_tell_20 : decode cX9_tell 20 = .ok (.iadd, 1) := dk_96 hN_cX9_tell rfl rfl
theorem dX9_tell_21 : decode cX9_tell 21 = .ok (.istore 5, 2) := dk_54 hN_cX9_tell rfl rfl rfl
theorem dX9_tell_23 : decode cX9_tell 23 = .ok (.aload_n 0, 1) := dk_42 hN_cX9_tell rfl rfl
theorem dX9_tell_24 : decode cX9_tell 24 = .ok (.getfield 22, 3) := dk_180 hN_cX9_tell rfl rfl rfl
theorem dX9_tell_27 : decode cX9_tell 27 = .ok (.iload 5, 2) := dk_21 hN_cX9_tell rfl rfl rfl
theorem dX9_tell_29 : decode cX9_tell 29 = .ok (.iaload, 1) := dk_46 hN_cX9_tell rfl rfl
theorem dX9_tell_30 : decode cX9_tell 30 = .ok (.ifCond .lt 40, 3) := dk_155 hN_cX9_tell rfl rfl rfl
theorem dX9_tell_70 : decode cX9_tell 70 = .ok (.aload_n 0, 1) := dk_42 hN_cX9_tell rfl rfl
theorem dX9_tell_71 : decode cX9_tell 71 = .ok (.getfield 22, 3) := dk_180 hN_cX9_tell rfl rfl rfl
theorem dX9_tell_74 : decode cX9_tell 74 = .ok (.iload 5, 2) := dk_21 hN_cX9_tell rfl rfl rfl
theorem dX9_tell_76 : decode cX9_tell 76 = .ok (.aload_n 0, 1) := dk_42 hN_cX9_tell rfl rfl
theorem dX9_tell_77 : decode cX9_tell 77 = .ok (.getfield 15, 3) := dk_180 hN_cX9_tell rfl rfl rfl
theorem dX9_tell_80 : decode cX9_tell 80 = .ok (.iload_n 1, 1) := dk_27 hN_cX9_tell rfl rfl
theorem dX9_tell_81 : decode cX9_tell 81 = .ok (.iaload, 1) := dk_46 hN_cX9_tell rfl rfl
theorem dX9_tell_82 : decode cX9_tell 82 = .ok (.iastore, 1) := dk_79 hN_cX9_tell rfl rfl
theorem dX9_tell_83 : decode cX9_tell 83 = .ok (.aload_n 0, 1) := dk_42 hN_cX9_tell rfl rfl
theorem dX9_tell_84 : decode cX9_tell 84 = .ok (.getfield 28, 3) := dk_180 hN_cX9_tell rfl rfl rfl
theorem dX9_tell_87 : decode cX9_tell 87 = .ok (.iload 5, 2) := dk_21 hN_cX9_tell rfl rfl rfl
theorem dX9_tell_89 : decode cX9_tell 89 = .ok (.iload_n 3, 1) := dk_29 hN_cX9_tell rfl rfl
theorem dX9_tell_90 : decode cX9_tell 90 = .ok (.iastore, 1) := dk_79 hN_cX9_tell rfl rfl
theorem dX9_tell_91 : decode cX9_tell 91 = .ok (.iconst 0, 1) := dk_3 hN_cX9_tell rfl rfl
theorem dX9_tell_92 : decode cX9_tell 92 = .ok (.istore 6, 2) := dk_54 hN_cX9_tell rfl rfl rfl
theorem dX9_tell_94 : decode cX9_tell 94 = .ok (.iconst 1, 1) := dk_4 hN_cX9_tell rfl rfl
theorem dX9_tell_95 : decode cX9_tell 95 = .ok (.istore 7, 2) := dk_54 hN_cX9_tell rfl rfl rfl
theorem dX9_tell_97 : decode cX9_tell 97 = .ok (.aload_n 0, 1) := dk_42 hN_cX9_tell rfl rfl
theorem dX9_tell_98 : decode cX9_tell 98 = .ok (.getfield 50, 3) := dk_180 hN_cX9_tell rfl rfl rfl
theorem dX9_tell_101 : decode cX9_tell 101 = .ok (.iconst 1, 1) := dk_4 hN_cX9_tell rfl rfl
theorem dX9_tell_102 : decode cX9_tell 102 = .ok (.isub, 1) := dk_100 hN_cX9_tell rfl rfl
theorem dX9_tell_103 : decode cX9_tell 103 = .ok (.iload 4, 2) := dk_21 hN_cX9_tell rfl rfl rfl
theorem dX9_tell_105 : decode cX9_tell 105 = .ok (.iconst 1, 1) := dk_4 hN_cX9_tell rfl rfl
theorem dX9_tell_106 : decode cX9_tell 106 = .ok (.iadd, 1) := dk_96 hN_cX9_tell rfl rfl
theorem dX9_tell_107 : decode cX9_tell 107 = .ok (.invokestatic 60, 3) := dk_184 hN_cX9_tell rfl rfl rfl
theorem dX9_tell_110 : decode cX9_tell 110 = .ok (.istore 8, 2) := dk_54 hN_cX9_tell rfl rfl rfl
theorem dX9_tell_112 : decode cX9_tell 112 = .ok (.iconst 0, 1) := dk_3 hN_cX9_tell rfl rfl
theorem dX9_tell_113 : decode cX9_tell 113 = .ok (.istore 9, 2) := dk_54 hN_cX9_tell rfl rfl rfl
theorem dX9_tell_33 : decode cX9_tell 33 = .ok (.aload_n 0, 1) := dk_42 hN_cX9_tell rfl rfl
theorem dX9_tell_34 : decode cX9_tell 34 = .ok (.getfield 22, 3) := dk_180 hN_cX9_tell rfl rfl rfl
theorem dX9_tell_37 : decode cX9_tell 37 = .ok (.iload 5, 2) := dk_21 hN_cX9_tell rfl rfl rfl
theorem dX9_tell_39 : decode cX9_tell 39 = .ok (.iaload, 1) := dk_46 hN_cX9_tell rfl rfl
theorem dX9_tell_40 : decode cX9_tell 40 = .ok (.aload_n 0, 1) := dk_42 hN_cX9_tell rfl rfl
theorem dX9_tell_41 : decode cX9_tell 41 = .ok (.getfield 15, 3) := dk_180 hN_cX9_tell rfl rfl rfl
theorem dX9_tell_44 : decode cX9_tell 44 = .ok (.iload_n 1, 1) := dk_27 hN_cX9_tell rfl rfl
theorem dX9_tell_45 : decode cX9_tell 45 = .ok (.iaload, 1) := dk_46 hN_cX9_tell rfl rfl
theorem dX9_tell_46 : decode cX9_tell 46 = .ok (.if_icmp .eq 13, 3) := dk_159 hN_cX9_tell rfl rfl rfl
theorem dX9_tell_59 : decode cX9_tell 59 = .ok (.aload_n 0, 1) := dk_42 hN_cX9_tell rfl rfl
theorem dX9_tell_60 : decode cX9_tell 60 = .ok (.iload_n 1, 1) := dk_27 hN_cX9_tell rfl rfl
theorem dX9_tell_61 : decode cX9_tell 61 = .ok (.iload 5, 2) := dk_21 hN_cX9_tell rfl rfl rfl
theorem dX9_tell_63 : decode cX9_tell 63 = .ok (.iload_n 3, 1) := dk_29 hN_cX9_tell rfl rfl
theorem dX9_tell_64 : decode cX9_tell 64 = .ok (.iload 4, 2) := dk_21 hN_cX9_tell rfl rfl rfl
theorem dX9_tell_66 : decode cX9_tell 66 = .ok (.invokevirtual 57, 3) := dk_182 hN_cX9_tell rfl rfl rfl
theorem dX9_tell_69 : decode cX9_tell 69 = .ok (.ireturn, 1) := dk_172 hN_cX9_tell rfl rfl
theorem dX9_tell_49 : decode cX9_tell 49 = .ok (.iload_n 3, 1) := dk_29 hN_cX9_tell rfl rfl
theorem dX9_tell_50 : decode cX9_tell 50 = .ok (.aload_n 0, 1) := dk_42 hN_cX9_tell rfl rfl
theorem dX9_tell_51 : decode cX9_tell 51 = .ok (.getfield 28, 3) := dk_180 hN_cX9_tell rfl rfl rfl
theorem dX9_tell_54 : decode cX9_tell 54 = .ok (.iload 5, 2) := dk_21 hN_cX9_tell rfl rfl rfl
theorem dX9_tell_56 : decode cX9_tell 56 = .ok (.iaload, 1) := dk_46 hN_cX9_tell rfl rfl
theorem dX9_tell_57 : decode cX9_tell 57 = .ok (.ior, 1) := dk_128 hN_cX9_tell rfl rfl
theorem dX9_tell_58 : decode cX9_tell 58 = .ok (.ireturn, 1) := dk_172 hN_cX9_tell rfl rfl
theorem dX9_tell_8 : decode cX9_tell 8 = .ok (.iconst (-1), 1) := dk_2 hN_cX9_tell rfl rfl
theorem dX9_tell_9 : decode cX9_tell 9 = .ok (.ireturn, 1) := dk_172 hN_cX9_tell rfl rfl
theorem dX9_tell_115 : decode cX9_tell 115 = .ok (.iload 7, 2) := dk_21 hN_cX9_tell rfl rfl rfl
theorem dX9_tell_117 : decode cX9_tell 117 = .ok (.ifCond .eq 91, 3) := dk_153 hN_cX9_tell rfl rfl rfl
theorem dX9_tell_208 : decode cX9_tell 208 = .ok (.aload_n 0, 1) := dk_42 hN_cX9_tell rfl rfl
theorem dX9_tell_209 : decode cX9_tell 209 = .ok (.getfield 22, 3) := dk_180 hN_cX9_tell rfl rfl rfl
theorem dX9_tell_212 : decode cX9_tell 212 = .ok (.iload 5, 2) := dk_21 hN_cX9_tell rfl rfl rfl
theorem dX9_tell_214 : decode cX9_tell 214 = .ok (.bipush (-2), 2) := dk_16 hN_cX9_tell rfl rfl rfl
theorem dX9_tell_216 : decode cX9_tell 216 = .ok (.iastore, 1) := dk_79 hN_cX9_tell rfl rfl
theorem dX9_tell_217 : decode cX9_tell 217 = .ok (.aload_n 0, 1) := dk_42 hN_cX9_tell rfl rfl
theorem dX9_tell_218 : decode cX9_tell 218 = .ok (.getfield 25, 3) := dk_180 hN_cX9_tell rfl rfl rfl
theorem dX9_tell_221 : decode cX9_tell 221 = .ok (.iload 5, 2) := dk_21 hN_cX9_tell rfl rfl rfl
theorem dX9_tell_223 : decode cX9_tell 223 = .ok (.bipush (-2), 2) := dk_16 hN_cX9_tell rfl rfl rfl
theorem dX9_tell_225 : decode cX9_tell 225 = .ok (.iastore, 1) := dk_79 hN_cX9_tell rfl rfl
theorem dX9_tell_226 : decode cX9_tell 226 = .ok (.iload 6, 2) := dk_21 hN_cX9_tell rfl rfl rfl
theorem dX9_tell_228 : decode cX9_tell 228 = .ok (.ireturn, 1) := dk_172 hN_cX9_tell rfl rfl
theorem dX9_tell_120 : decode cX9_tell 120 = .ok (.iload 9, 2) := dk_21 hN_cX9_tell rfl rfl rfl
theorem dX9_tell_122 : decode cX9_tell 122 = .ok (.iload 8, 2) := dk_21 hN_cX9_tell rfl rfl rfl
theorem dX9_tell_124 : decode cX9_tell 124 = .ok (.if_icmp .gt 84, 3) := dk_163 hN_cX9_tell rfl rfl rfl
theorem dX9_tell_127 : decode cX9_tell 127 = .ok (.aload_n 0, 1) := dk_42 hN_cX9_tell rfl rfl
theorem dX9_tell_128 : decode cX9_tell 128 = .ok (.getfield 25, 3) := dk_180 hN_cX9_tell rfl rfl rfl
theorem dX9_tell_131 : decode cX9_tell 131 = .ok (.iload 5, 2) := dk_21 hN_cX9_tell rfl rfl rfl
theorem dX9_tell_133 : decode cX9_tell 133 = .ok (.iload 9, 2) := dk_21 hN_cX9_tell rfl rfl rfl
theorem dX9_tell_135 : decode cX9_tell 135 = .ok (.iastore, 1) := dk_79 hN_cX9_tell rfl rfl
theorem dX9_tell_136 : decode cX9_tell 136 = .ok (.aload_n 0, 1) := dk_42 hN_cX9_tell rfl rfl
theorem dX9_tell_137 : decode cX9_tell 137 = .ok (.iload_n 1, 1) := dk_27 hN_cX9_tell rfl rfl
theorem dX9_tell_138 : decode cX9_tell 138 = .ok (.iload 5, 2) := dk_21 hN_cX9_tell rfl rfl rfl
theorem dX9_tell_140 : decode cX9_tell 140 = .ok (.iload_n 3, 1) := dk_29 hN_cX9_tell rfl rfl
theorem dX9_tell_141 : decode cX9_tell 141 = .ok (.iload 4, 2) := dk_21 hN_cX9_tell rfl rfl rfl
theorem dX9_tell_143 : decode cX9_tell 143 = .ok (.iload 9, 2) := dk_21 hN_cX9_tell rfl rfl rfl
theorem dX9_tell_145 : decode cX9_tell 145 = .ok (.invokestatic 66, 3) := dk_184 hN_cX9_tell rfl rfl rfl
theorem dX9_tell_148 : decode cX9_tell 148 = .ok (.invokevirtual 57, 3) := dk_182 hN_cX9_tell rfl rfl rfl
theorem dX9_tell_151 : decode cX9_tell 151 = .ok (.istore 10, 2) := dk_54 hN_cX9_tell rfl rfl rfl
theorem dX9_tell_153 : decode cX9_tell 153 = .ok (.iload 10, 2) := dk_21 hN_cX9_tell rfl rfl rfl
theorem dX9_tell_155 : decode cX9_tell 155 = .ok (.iconst (-1), 1) := dk_2 hN_cX9_tell rfl rfl
theorem dX9_tell_156 : decode cX9_tell 156 = .ok (.if_icmp .ne 5, 3) := dk_160 hN_cX9_tell rfl rfl rfl
theorem dX9_tell_161 : decode cX9_tell 161 = .ok (.iload 10, 2) := dk_21 hN_cX9_tell rfl rfl rfl
theorem dX9_tell_163 : decode cX9_tell 163 = .ok (.iload 5, 2) := dk_21 hN_cX9_tell rfl rfl rfl
theorem dX9_tell_165 : decode cX9_tell 165 = .ok (.ishr, 1) := dk_122 hN_cX9_tell rfl rfl
theorem dX9_tell_166 : decode cX9_tell 166 = .ok (.iconst 1, 1) := dk_4 hN_cX9_tell rfl rfl
theorem dX9_tell_167 : decode cX9_tell 167 = .ok (.iand, 1) := dk_126 hN_cX9_tell rfl rfl
theorem dX9_tell_168 : decode cX9_tell 168 = .ok (.ifCond .eq 7, 3) := dk_153 hN_cX9_tell rfl rfl rfl
theorem dX9_tell_175 : decode cX9_tell 175 = .ok (.iconst 0, 1) := dk_3 hN_cX9_tell rfl rfl
theorem dX9_tell_176 : decode cX9_tell 176 = .ok (.istore 7, 2) := dk_54 hN_cX9_tell rfl rfl rfl
theorem dX9_tell_178 : decode cX9_tell 178 = .ok (.iload 7, 2) := dk_21 hN_cX9_tell rfl rfl rfl
theorem dX9_tell_180 : decode cX9_tell 180 = .ok (.ifCond .eq 18, 3) := dk_153 hN_cX9_tell rfl rfl rfl
theorem dX9_tell_198 : decode cX9_tell 198 = .ok (.iload 10, 2) := dk_21 hN_cX9_tell rfl rfl rfl
theorem dX9_tell_200 : decode cX9_tell 200 = .ok (.istore 6, 2) := dk_54 hN_cX9_tell rfl rfl rfl
theorem dX9_tell_202 : decode cX9_tell 202 = .ok (.iinc 9 1, 3) := dk_132 hN_cX9_tell rfl rfl rfl rfl
theorem dX9_tell_205 : decode cX9_tell 205 = .ok (.goto (-90), 3) := dk_167 hN_cX9_tell rfl rfl rfl
theorem dX9_tell_171 : decode cX9_tell 171 = .ok (.iconst 1, 1) := dk_4 hN_cX9_tell rfl rfl
theorem dX9_tell_172 : decode cX9_tell 172 = .ok (.goto 4, 3) := dk_167 hN_cX9_tell rfl rfl rfl
theorem dX9_tell_183 : decode cX9_tell 183 = .ok (.iload 6, 2) := dk_21 hN_cX9_tell rfl rfl rfl
theorem dX9_tell_185 : decode cX9_tell 185 = .ok (.iload 10, 2) := dk_21 hN_cX9_tell rfl rfl rfl
theorem dX9_tell_187 : decode cX9_tell 187 = .ok (.iconst 1, 1) := dk_4 hN_cX9_tell rfl rfl
theorem dX9_tell_188 : decode cX9_tell 188 = .ok (.iload 5, 2) := dk_21 hN_cX9_tell rfl rfl rfl
theorem dX9_tell_190 : decode cX9_tell 190 = .ok (.ishl, 1) := dk_120 hN_cX9_tell rfl rfl
theorem dX9_tell_191 : decode cX9_tell 191 = .ok (.iconst (-1), 1) := dk_2 hN_cX9_tell rfl rfl
theorem dX9_tell_192 : decode cX9_tell 192 = .ok (.ixor, 1) := dk_130 hN_cX9_tell rfl rfl
theorem dX9_tell_193 : decode cX9_tell 193 = .ok (.iand, 1) := dk_126 hN_cX9_tell rfl rfl
theorem dX9_tell_194 : decode cX9_tell 194 = .ok (.ior, 1) := dk_128 hN_cX9_tell rfl rfl
theorem dX9_tell_195 : decode cX9_tell 195 = .ok (.goto 5, 3) := dk_167 hN_cX9_tell rfl rfl rfl
theorem dX9_tell_159 : decode cX9_tell 159 = .ok (.iconst (-1), 1) := dk_2 hN_cX9_tell rfl rfl
theorem dX9_tell_160 : decode cX9_tell 160 = .ok (.ireturn, 1) := dk_172 hN_cX9_tell rfl rfl
theorem dX9_tellOn_0 : decode cX9_tellOn 0 = .ok (.aload_n 0, 1) := dk_42 hN_cX9_tellOn rfl rfl
theorem dX9_tellOn_1 : decode cX9_tellOn 1 = .ok (.getfield 18, 3) := dk_180 hN_cX9_tellOn rfl rfl rfl
theorem dX9_tellOn_4 : decode cX9_tellOn 4 = .ok (.iload_n 1, 1) := dk_27 hN_cX9_tellOn rfl rfl
theorem dX9_tellOn_5 : decode cX9_tellOn 5 = .ok (.baload, 1) := dk_51 hN_cX9_tellOn rfl rfl
theorem dX9_tellOn_6 : decode cX9_tellOn 6 = .ok (.ifCond .eq 15, 3) := dk_153 hN_cX9_tellOn rfl rfl rfl
theorem dX9_tellOn_21 : decode cX9_tellOn 21 = .ok (.aload_n 0, 1) := dk_42 hN_cX9_tellOn rfl rfl
theorem dX9_tellOn_22 : decode cX9_tellOn 22 = .ok (.iload_n 1, 1) := dk_27 hN_cX9_tellOn rfl rfl
theorem dX9_tellOn_23 : decode cX9_tellOn 23 = .ok (.iconst 1, 1) := dk_4 hN_cX9_tellOn rfl rfl
theorem dX9_tellOn_24 : decode cX9_tellOn 24 = .ok (.iadd, 1) := dk_96 hN_cX9_tellOn rfl rfl
theorem dX9_tellOn_25 : decode cX9_tellOn 25 = .ok (.aload_n 0, 1) := dk_42 hN_cX9_tellOn rfl rfl
theorem dX9_tellOn_26 : decode cX9_tellOn 26 = .ok (.getfield 25, 3) := dk_180 hN_cX9_tellOn rfl rfl rfl
theorem dX9_tellOn_29 : decode cX9_tellOn 29 = .ok (.iload_n 2, 1) := dk_28 hN_cX9_tellOn rfl rfl
theorem dX9_tellOn_30 : decode cX9_tellOn 30 = .ok (.iaload, 1) := dk_46 hN_cX9_tellOn rfl rfl
theorem dX9_tellOn_31 : decode cX9_tellOn 31 = .ok (.iload_n 3, 1) := dk_29 hN_cX9_tellOn rfl rfl
theorem dX9_tellOn_32 : decode cX9_tellOn 32 = .ok (.iconst 1, 1) := dk_4 hN_cX9_tellOn rfl rfl
theorem dX9_tellOn_33 : decode cX9_tellOn 33 = .ok (.iload_n 2, 1) := dk_28 hN_cX9_tellOn rfl rfl
theorem dX9_tellOn_34 : decode cX9_tellOn 34 = .ok (.ishl, 1) := dk_120 hN_cX9_tellOn rfl rfl
theorem dX9_tellOn_35 : decode cX9_tellOn 35 = .ok (.ior, 1) := dk_128 hN_cX9_tellOn rfl rfl
theorem dX9_tellOn_36 : decode cX9_tellOn 36 = .ok (.iload 4, 2) := dk_21 hN_cX9_tellOn rfl rfl rfl
theorem dX9_tellOn_38 : decode cX9_tellOn 38 = .ok (.invokevirtual 53, 3) := dk_182 hN_cX9_tellOn rfl rfl rfl
theorem dX9_tellOn_41 : decode cX9_tellOn 41 = .ok (.ireturn, 1) := dk_172 hN_cX9_tellOn rfl rfl
theorem dX9_tellOn_9 : decode cX9_tellOn 9 = .ok (.aload_n 0, 1) := dk_42 hN_cX9_tellOn rfl rfl
theorem dX9_tellOn_10 : decode cX9_tellOn 10 = .ok (.iload_n 1, 1) := dk_27 hN_cX9_tellOn rfl rfl
theorem dX9_tellOn_11 : decode cX9_tellOn 11 = .ok (.iconst 1, 1) := dk_4 hN_cX9_tellOn rfl rfl
theorem dX9_tellOn_12 : decode cX9_tellOn 12 = .ok (.iadd, 1) := dk_96 hN_cX9_tellOn rfl rfl
theorem dX9_tellOn_13 : decode cX9_tellOn 13 = .ok (.iconst 0, 1) := dk_3 hN_cX9_tellOn rfl rfl
theorem dX9_tellOn_14 : decode cX9_tellOn 14 = .ok (.iconst 0, 1) := dk_3 hN_cX9_tellOn rfl rfl
theorem dX9_tellOn_15 : decode cX9_tellOn 15 = .ok (.iload 4, 2) := dk_21 hN_cX9_tellOn rfl rfl rfl
theorem dX9_tellOn_17 : decode cX9_tellOn 17 = .ok (.invokevirtual 53, 3) := dk_182 hN_cX9_tellOn rfl rfl rfl
theorem dX9_tellOn_20 : decode cX9_tellOn 20 = .ok (.ireturn, 1) := dk_172 hN_cX9_tellOn rfl rfl
theorem dX4_open_0 : decode cX4_open 0 = .ok (.aload_n 0, 1) := dk_42 hN_cX4_open rfl rfl
theorem dX4_open_1 : decode cX4_open 1 = .ok (.iconst 0, 1) := dk_3 hN_cX4_open rfl rfl
theorem dX4_open_2 : decode cX4_open 2 = .ok (.putfield 28, 3) := dk_181 hN_cX4_open rfl rfl rfl
theorem dX4_open_5 : decode cX4_open 5 = .ok (.aload_n 0, 1) := dk_42 hN_cX4_open rfl rfl
theorem dX4_open_6 : decode cX4_open 6 = .ok (.iconst 0, 1) := dk_3 hN_cX4_open rfl rfl
theorem dX4_open_7 : decode cX4_open 7 = .ok (.putfield 32, 3) := dk_181 hN_cX4_open rfl rfl rfl
theorem dX4_open_10 : decode cX4_open 10 = .ok (.aload_n 0, 1) := dk_42 hN_cX4_open rfl rfl
theorem dX4_open_11 : decode cX4_open 11 = .ok (.iconst 0, 1) := dk_3 hN_cX4_open rfl rfl
theorem dX4_open_12 : decode cX4_open 12 = .ok (.putfield 35, 3) := dk_181 hN_cX4_open rfl rfl rfl
theorem dX4_open_15 : decode cX4_open 15 = .ok (.return_, 1) := dk_177 hN_cX4_open rfl rfl
theorem dX4_begin_0 : decode cX4_begin 0 = .ok (.aload_n 0, 1) := dk_42 hN_cX4_begin rfl rfl
theorem dX4_begin_1 : decode cX4_begin 1 = .ok (.getfield 28, 3) := dk_180 hN_cX4_begin rfl rfl rfl
theorem dX4_begin_4 : decode cX4_begin 4 = .ok (.bipush 20, 2) := dk_16 hN_cX4_begin rfl rfl rfl
theorem dX4_begin_6 : decode cX4_begin 6 = .ok (.if_icmp .lt 7, 3) := dk_161 hN_cX4_begin rfl rfl rfl
theorem dX4_begin_13 : decode cX4_begin 13 = .ok (.aload_n 0, 1) := dk_42 hN_cX4_begin rfl rfl
theorem dX4_begin_14 : decode cX4_begin 14 = .ok (.getfield 24, 3) := dk_180 hN_cX4_begin rfl rfl rfl
theorem dX4_begin_17 : decode cX4_begin 17 = .ok (.aload_n 0, 1) := dk_42 hN_cX4_begin rfl rfl
theorem dX4_begin_18 : decode cX4_begin 18 = .ok (.getfield 18, 3) := dk_180 hN_cX4_begin rfl rfl rfl
theorem dX4_begin_21 : decode cX4_begin 21 = .ok (.aload_n 0, 1) := dk_42 hN_cX4_begin rfl rfl
theorem dX4_begin_22 : decode cX4_begin 22 = .ok (.getfield 28, 3) := dk_180 hN_cX4_begin rfl rfl rfl
theorem dX4_begin_25 : decode cX4_begin 25 = .ok (.aaload, 1) := dk_50 hN_cX4_begin rfl rfl
theorem dX4_begin_26 : decode cX4_begin 26 = .ok (.invokevirtual 41, 3) := dk_182 hN_cX4_begin rfl rfl rfl
theorem dX4_begin_29 : decode cX4_begin 29 = .ok (.aload_n 0, 1) := dk_42 hN_cX4_begin rfl rfl
theorem dX4_begin_30 : decode cX4_begin 30 = .ok (.getfield 13, 3) := dk_180 hN_cX4_begin rfl rfl rfl
theorem dX4_begin_33 : decode cX4_begin 33 = .ok (.aload_n 0, 1) := dk_42 hN_cX4_begin rfl rfl
theorem dX4_begin_34 : decode cX4_begin 34 = .ok (.getfield 28, 3) := dk_180 hN_cX4_begin rfl rfl rfl
theorem dX4_begin_37 : decode cX4_begin 37 = .ok (.aaload, 1) := dk_50 hN_cX4_begin rfl rfl
theorem dX4_begin_38 : decode cX4_begin 38 = .ok (.astore_n 3, 1) := dk_78 hN_cX4_begin rfl rfl
theorem dX4_begin_39 : decode cX4_begin 39 = .ok (.aload_n 3, 1) := dk_45 hN_cX4_begin rfl rfl
theorem dX4_begin_40 : decode cX4_begin 40 = .ok (.iconst 0, 1) := dk_3 hN_cX4_begin rfl rfl
theorem dX4_begin_41 : decode cX4_begin 41 = .ok (.iload_n 1, 1) := dk_27 hN_cX4_begin rfl rfl
theorem dX4_begin_42 : decode cX4_begin 42 = .ok (.iastore, 1) := dk_79 hN_cX4_begin rfl rfl
theorem dX4_begin_43 : decode cX4_begin 43 = .ok (.aload_n 3, 1) := dk_45 hN_cX4_begin rfl rfl
theorem dX4_begin_44 : decode cX4_begin 44 = .ok (.iconst 1, 1) := dk_4 hN_cX4_begin rfl rfl
theorem dX4_begin_45 : decode cX4_begin 45 = .ok (.iload_n 2, 1) := dk_28 hN_cX4_begin rfl rfl
theorem dX4_begin_46 : decode cX4_begin 46 = .ok (.iastore, 1) := dk_79 hN_cX4_begin rfl rfl
theorem dX4_begin_47 : decode cX4_begin 47 = .ok (.aload_n 3, 1) := dk_45 hN_cX4_begin rfl rfl
theorem dX4_begin_48 : decode cX4_begin 48 = .ok (.iconst 2, 1) := dk_5 hN_cX4_begin rfl rfl
theorem dX4_begin_49 : decode cX4_begin 49 = .ok (.bipush (-2), 2) := dk_16 hN_cX4_begin rfl rfl rfl
theorem dX4_begin_51 : decode cX4_begin 51 = .ok (.iastore, 1) := dk_79 hN_cX4_begin rfl rfl
theorem dX4_begin_52 : decode cX4_begin 52 = .ok (.aload_n 3, 1) := dk_45 hN_cX4_begin rfl rfl
theorem dX4_begin_53 : decode cX4_begin 53 = .ok (.iconst 3, 1) := dk_6 hN_cX4_begin rfl rfl
theorem dX4_begin_54 : decode cX4_begin 54 = .ok (.bipush (-2), 2) := dk_16 hN_cX4_begin rfl rfl rfl
theorem dX4_begin_56 : decode cX4_begin 56 = .ok (.iastore, 1) := dk_79 hN_cX4_begin rfl rfl
theorem dX4_begin_57 : decode cX4_begin 57 = .ok (.aload_n 3, 1) := dk_45 hN_cX4_begin rfl rfl
theorem dX4_begin_58 : decode cX4_begin 58 = .ok (.iconst 4, 1) := dk_7 hN_cX4_begin rfl rfl
theorem dX4_begin_59 : decode cX4_begin 59 = .ok (.bipush (-2), 2) := dk_16 hN_cX4_begin rfl rfl rfl
theorem dX4_begin_61 : decode cX4_begin 61 = .ok (.iastore, 1) := dk_79 hN_cX4_begin rfl rfl
theorem dX4_begin_62 : decode cX4_begin 62 = .ok (.aload_n 0, 1) := dk_42 hN_cX4_begin rfl rfl
theorem dX4_begin_63 : decode cX4_begin 63 = .ok (.dup, 1) := dk_89 hN_cX4_begin rfl rfl
theorem dX4_begin_64 : decode cX4_begin 64 = .ok (.getfield 28, 3) := dk_180 hN_cX4_begin rfl rfl rfl
theorem dX4_begin_67 : decode cX4_begin 67 = .ok (.iconst 1, 1) := dk_4 hN_cX4_begin rfl rfl
theorem dX4_begin_68 : decode cX4_begin 68 = .ok (.iadd, 1) := dk_96 hN_cX4_begin rfl rfl
theorem dX4_begin_69 : decode cX4_begin 69 = .ok (.putfield 28, 3) := dk_181 hN_cX4_begin rfl rfl rfl
theorem dX4_begin_72 : decode cX4_begin 72 = .ok (.aload_n 0, 1) := dk_42 hN_cX4_begin rfl rfl
theorem dX4_begin_73 : decode cX4_begin 73 = .ok (.aload_n 0, 1) := dk_42 hN_cX4_begin rfl rfl
theorem dX4_begin_74 : decode cX4_begin 74 = .ok (.getfield 28, 3) := dk_180 hN_cX4_begin rfl rfl rfl
theorem dX4_begin_77 : decode cX4_begin 77 = .ok (.putfield 32, 3) := dk_181 hN_cX4_begin rfl rfl rfl
theorem dX4_begin_80 : decode cX4_begin 80 = .ok (.return_, 1) := dk_177 hN_cX4_begin rfl rfl
theorem dX4_begin_9 : decode cX4_begin 9 = .ok (.aload_n 0, 1) := dk_42 hN_cX4_begin rfl rfl
theorem dX4_begin_10 : decode cX4_begin 10 = .ok (.invokevirtual 38, 3) := dk_182 hN_cX4_begin rfl rfl rfl
theorem dX4_tellMove_0 : decode cX4_tellMove 0 = .ok (.aload_n 0, 1) := dk_42 hN_cX4_tellMove rfl rfl
theorem dX4_tellMove_1 : decode cX4_tellMove 1 = .ok (.getfield 28, 3) := dk_180 hN_cX4_tellMove rfl rfl rfl
theorem dX4_tellMove_4 : decode cX4_tellMove 4 = .ok (.ifCond .le 31, 3) := dk_158 hN_cX4_tellMove rfl rfl rfl
theorem dX4_tellMove_35 : decode cX4_tellMove 35 = .ok (.return_, 1) := dk_177 hN_cX4_tellMove rfl rfl
theorem dX4_tellMove_7 : decode cX4_tellMove 7 = .ok (.aload_n 0, 1) := dk_42 hN_cX4_tellMove rfl rfl
theorem dX4_tellMove_8 : decode cX4_tellMove 8 = .ok (.getfield 13, 3) := dk_180 hN_cX4_tellMove rfl rfl rfl
theorem dX4_tellMove_11 : decode cX4_tellMove 11 = .ok (.aload_n 0, 1) := dk_42 hN_cX4_tellMove rfl rfl
theorem dX4_tellMove_12 : decode cX4_tellMove 12 = .ok (.getfield 28, 3) := dk_180 hN_cX4_tellMove rfl rfl rfl
theorem dX4_tellMove_15 : decode cX4_tellMove 15 = .ok (.iconst 1, 1) := dk_4 hN_cX4_tellMove rfl rfl
theorem dX4_tellMove_16 : decode cX4_tellMove 16 = .ok (.isub, 1) := dk_100 hN_cX4_tellMove rfl rfl
theorem dX4_tellMove_17 : decode cX4_tellMove 17 = .ok (.aaload, 1) := dk_50 hN_cX4_tellMove rfl rfl
theorem dX4_tellMove_18 : decode cX4_tellMove 18 = .ok (.astore 4, 2) := dk_58 hN_cX4_tellMove rfl rfl rfl
theorem dX4_tellMove_20 : decode cX4_tellMove 20 = .ok (.aload 4, 2) := dk_25 hN_cX4_tellMove rfl rfl rfl
theorem dX4_tellMove_22 : decode cX4_tellMove 22 = .ok (.iconst 2, 1) := dk_5 hN_cX4_tellMove rfl rfl
theorem dX4_tellMove_23 : decode cX4_tellMove 23 = .ok (.iload_n 1, 1) := dk_27 hN_cX4_tellMove rfl rfl
theorem dX4_tellMove_24 : decode cX4_tellMove 24 = .ok (.iastore, 1) := dk_79 hN_cX4_tellMove rfl rfl
theorem dX4_tellMove_25 : decode cX4_tellMove 25 = .ok (.aload 4, 2) := dk_25 hN_cX4_tellMove rfl rfl rfl
theorem dX4_tellMove_27 : decode cX4_tellMove 27 = .ok (.iconst 3, 1) := dk_6 hN_cX4_tellMove rfl rfl
theorem dX4_tellMove_28 : decode cX4_tellMove 28 = .ok (.iload_n 2, 1) := dk_28 hN_cX4_tellMove rfl rfl
theorem dX4_tellMove_29 : decode cX4_tellMove 29 = .ok (.iastore, 1) := dk_79 hN_cX4_tellMove rfl rfl
theorem dX4_tellMove_30 : decode cX4_tellMove 30 = .ok (.aload 4, 2) := dk_25 hN_cX4_tellMove rfl rfl rfl
theorem dX4_tellMove_32 : decode cX4_tellMove 32 = .ok (.iconst 4, 1) := dk_7 hN_cX4_tellMove rfl rfl
theorem dX4_tellMove_33 : decode cX4_tellMove 33 = .ok (.iload_n 3, 1) := dk_29 hN_cX4_tellMove rfl rfl
theorem dX4_tellMove_34 : decode cX4_tellMove 34 = .ok (.iastore, 1) := dk_79 hN_cX4_tellMove rfl rfl
theorem dX4_leaveOldest_0 : decode cX4_leaveOldest 0 = .ok (.aload_n 0, 1) := dk_42 hN_cX4_leaveOldest rfl rfl
theorem dX4_leaveOldest_1 : decode cX4_leaveOldest 1 = .ok (.getfield 13, 3) := dk_180 hN_cX4_leaveOldest rfl rfl rfl
theorem dX4_leaveOldest_4 : decode cX4_leaveOldest 4 = .ok (.iconst 0, 1) := dk_3 hN_cX4_leaveOldest rfl rfl
theorem dX4_leaveOldest_5 : decode cX4_leaveOldest 5 = .ok (.aaload, 1) := dk_50 hN_cX4_leaveOldest rfl rfl
theorem dX4_leaveOldest_6 : decode cX4_leaveOldest 6 = .ok (.astore_n 1, 1) := dk_76 hN_cX4_leaveOldest rfl rfl
theorem dX4_leaveOldest_7 : decode cX4_leaveOldest 7 = .ok (.aload_n 0, 1) := dk_42 hN_cX4_leaveOldest rfl rfl
theorem dX4_leaveOldest_8 : decode cX4_leaveOldest 8 = .ok (.getfield 18, 3) := dk_180 hN_cX4_leaveOldest rfl rfl rfl
theorem dX4_leaveOldest_11 : decode cX4_leaveOldest 11 = .ok (.iconst 0, 1) := dk_3 hN_cX4_leaveOldest rfl rfl
theorem dX4_leaveOldest_12 : decode cX4_leaveOldest 12 = .ok (.aaload, 1) := dk_50 hN_cX4_leaveOldest rfl rfl
theorem dX4_leaveOldest_13 : decode cX4_leaveOldest 13 = .ok (.astore_n 2, 1) := dk_77 hN_cX4_leaveOldest rfl rfl
theorem dX4_leaveOldest_14 : decode cX4_leaveOldest 14 = .ok (.iconst 0, 1) := dk_3 hN_cX4_leaveOldest rfl rfl
theorem dX4_leaveOldest_15 : decode cX4_leaveOldest 15 = .ok (.istore_n 3, 1) := dk_62 hN_cX4_leaveOldest rfl rfl
theorem dX4_leaveOldest_16 : decode cX4_leaveOldest 16 = .ok (.iload_n 3, 1) := dk_29 hN_cX4_leaveOldest rfl rfl
theorem dX4_leaveOldest_17 : decode cX4_leaveOldest 17 = .ok (.bipush 19, 2) := dk_16 hN_cX4_leaveOldest rfl rfl rfl
theorem dX4_leaveOldest_19 : decode cX4_leaveOldest 19 = .ok (.if_icmp .ge 37, 3) := dk_162 hN_cX4_leaveOldest rfl rfl rfl
theorem dX4_leaveOldest_56 : decode cX4_leaveOldest 56 = .ok (.aload_n 0, 1) := dk_42 hN_cX4_leaveOldest rfl rfl
theorem dX4_leaveOldest_57 : decode cX4_leaveOldest 57 = .ok (.getfield 13, 3) := dk_180 hN_cX4_leaveOldest rfl rfl rfl
theorem dX4_leaveOldest_60 : decode cX4_leaveOldest 60 = .ok (.bipush 19, 2) := dk_16 hN_cX4_leaveOldest rfl rfl rfl
theorem dX4_leaveOldest_62 : decode cX4_leaveOldest 62 = .ok (.aload_n 1, 1) := dk_43 hN_cX4_leaveOldest rfl rfl
theorem dX4_leaveOldest_63 : decode cX4_leaveOldest 63 = .ok (.aastore, 1) := dk_83 hN_cX4_leaveOldest rfl rfl
theorem dX4_leaveOldest_64 : decode cX4_leaveOldest 64 = .ok (.aload_n 0, 1) := dk_42 hN_cX4_leaveOldest rfl rfl
theorem dX4_leaveOldest_65 : decode cX4_leaveOldest 65 = .ok (.getfield 18, 3) := dk_180 hN_cX4_leaveOldest rfl rfl rfl
theorem dX4_leaveOldest_68 : decode cX4_leaveOldest 68 = .ok (.bipush 19, 2) := dk_16 hN_cX4_leaveOldest rfl rfl rfl
theorem dX4_leaveOldest_70 : decode cX4_leaveOldest 70 = .ok (.aload_n 2, 1) := dk_44 hN_cX4_leaveOldest rfl rfl
theorem dX4_leaveOldest_71 : decode cX4_leaveOldest 71 = .ok (.aastore, 1) := dk_83 hN_cX4_leaveOldest rfl rfl
theorem dX4_leaveOldest_72 : decode cX4_leaveOldest 72 = .ok (.aload_n 0, 1) := dk_42 hN_cX4_leaveOldest rfl rfl
theorem dX4_leaveOldest_73 : decode cX4_leaveOldest 73 = .ok (.bipush 19, 2) := dk_16 hN_cX4_leaveOldest rfl rfl rfl
theorem dX4_leaveOldest_75 : decode cX4_leaveOldest 75 = .ok (.putfield 28, 3) := dk_181 hN_cX4_leaveOldest rfl rfl rfl
theorem dX4_leaveOldest_78 : decode cX4_leaveOldest 78 = .ok (.return_, 1) := dk_177 hN_cX4_leaveOldest rfl rfl
theorem dX4_leaveOldest_22 : decode cX4_leaveOldest 22 = .ok (.aload_n 0, 1) := dk_42 hN_cX4_leaveOldest rfl rfl
theorem dX4_leaveOldest_23 : decode cX4_leaveOldest 23 = .ok (.getfield 13, 3) := dk_180 hN_cX4_leaveOldest rfl rfl rfl
theorem dX4_leaveOldest_26 : decode cX4_leaveOldest 26 = .ok (.iload_n 3, 1) := dk_29 hN_cX4_leaveOldest rfl rfl
theorem dX4_leaveOldest_27 : decode cX4_leaveOldest 27 = .ok (.aload_n 0, 1) := dk_42 hN_cX4_leaveOldest rfl rfl
theorem dX4_leaveOldest_28 : decode cX4_leaveOldest 28 = .ok (.getfield 13, 3) := dk_180 hN_cX4_leaveOldest rfl rfl rfl
theorem dX4_leaveOldest_31 : decode cX4_leaveOldest 31 = .ok (.iload_n 3, 1) := dk_29 hN_cX4_leaveOldest rfl rfl
theorem dX4_leaveOldest_32 : decode cX4_leaveOldest 32 = .ok (.iconst 1, 1) := dk_4 hN_cX4_leaveOldest rfl rfl
theorem dX4_leaveOldest_33 : decode cX4_leaveOldest 33 = .ok (.iadd, 1) := dk_96 hN_cX4_leaveOldest rfl rfl
theorem dX4_leaveOldest_34 : decode cX4_leaveOldest 34 = .ok (.aaload, 1) := dk_50 hN_cX4_leaveOldest rfl rfl
theorem dX4_leaveOldest_35 : decode cX4_leaveOldest 35 = .ok (.aastore, 1) := dk_83 hN_cX4_leaveOldest rfl rfl
theorem dX4_leaveOldest_36 : decode cX4_leaveOldest 36 = .ok (.aload_n 0, 1) := dk_42 hN_cX4_leaveOldest rfl rfl
theorem dX4_leaveOldest_37 : decode cX4_leaveOldest 37 = .ok (.getfield 18, 3) := dk_180 hN_cX4_leaveOldest rfl rfl rfl
theorem dX4_leaveOldest_40 : decode cX4_leaveOldest 40 = .ok (.iload_n 3, 1) := dk_29 hN_cX4_leaveOldest rfl rfl
theorem dX4_leaveOldest_41 : decode cX4_leaveOldest 41 = .ok (.aload_n 0, 1) := dk_42 hN_cX4_leaveOldest rfl rfl
theorem dX4_leaveOldest_42 : decode cX4_leaveOldest 42 = .ok (.getfield 18, 3) := dk_180 hN_cX4_leaveOldest rfl rfl rfl
theorem dX4_leaveOldest_45 : decode cX4_leaveOldest 45 = .ok (.iload_n 3, 1) := dk_29 hN_cX4_leaveOldest rfl rfl
theorem dX4_leaveOldest_46 : decode cX4_leaveOldest 46 = .ok (.iconst 1, 1) := dk_4 hN_cX4_leaveOldest rfl rfl
theorem dX4_leaveOldest_47 : decode cX4_leaveOldest 47 = .ok (.iadd, 1) := dk_96 hN_cX4_leaveOldest rfl rfl
theorem dX4_leaveOldest_48 : decode cX4_leaveOldest 48 = .ok (.aaload, 1) := dk_50 hN_cX4_leaveOldest rfl rfl
theorem dX4_leaveOldest_49 : decode cX4_leaveOldest 49 = .ok (.aastore, 1) := dk_83 hN_cX4_leaveOldest rfl rfl
theorem dX4_leaveOldest_50 : decode cX4_leaveOldest 50 = .ok (.iinc 3 1, 3) := dk_132 hN_cX4_leaveOldest rfl rfl rfl rfl
theorem dX4_leaveOldest_53 : decode cX4_leaveOldest 53 = .ok (.goto (-37), 3) := dk_167 hN_cX4_leaveOldest rfl rfl rfl
theorem dX4_takeBack_0 : decode cX4_takeBack 0 = .ok (.aload_n 0, 1) := dk_42 hN_cX4_takeBack rfl rfl
theorem dX4_takeBack_1 : decode cX4_takeBack 1 = .ok (.getfield 28, 3) := dk_180 hN_cX4_takeBack rfl rfl rfl
theorem dX4_takeBack_4 : decode cX4_takeBack 4 = .ok (.ifCond .ne 5, 3) := dk_154 hN_cX4_takeBack rfl rfl rfl
theorem dX4_takeBack_9 : decode cX4_takeBack 9 = .ok (.aload_n 0, 1) := dk_42 hN_cX4_takeBack rfl rfl
theorem dX4_takeBack_10 : decode cX4_takeBack 10 = .ok (.getfield 24, 3) := dk_180 hN_cX4_takeBack rfl rfl rfl
theorem dX4_takeBack_13 : decode cX4_takeBack 13 = .ok (.aload_n 0, 1) := dk_42 hN_cX4_takeBack rfl rfl
theorem dX4_takeBack_14 : decode cX4_takeBack 14 = .ok (.getfield 18, 3) := dk_180 hN_cX4_takeBack rfl rfl rfl
theorem dX4_takeBack_17 : decode cX4_takeBack 17 = .ok (.aload_n 0, 1) := dk_42 hN_cX4_takeBack rfl rfl
theorem dX4_takeBack_18 : decode cX4_takeBack 18 = .ok (.getfield 28, 3) := dk_180 hN_cX4_takeBack rfl rfl rfl
theorem dX4_takeBack_21 : decode cX4_takeBack 21 = .ok (.aaload, 1) := dk_50 hN_cX4_takeBack rfl rfl
theorem dX4_takeBack_22 : decode cX4_takeBack 22 = .ok (.invokevirtual 41, 3) := dk_182 hN_cX4_takeBack rfl rfl rfl
theorem dX4_takeBack_25 : decode cX4_takeBack 25 = .ok (.aload_n 0, 1) := dk_42 hN_cX4_takeBack rfl rfl
theorem dX4_takeBack_26 : decode cX4_takeBack 26 = .ok (.dup, 1) := dk_89 hN_cX4_takeBack rfl rfl
theorem dX4_takeBack_27 : decode cX4_takeBack 27 = .ok (.getfield 28, 3) := dk_180 hN_cX4_takeBack rfl rfl rfl
theorem dX4_takeBack_30 : decode cX4_takeBack 30 = .ok (.iconst 1, 1) := dk_4 hN_cX4_takeBack rfl rfl
theorem dX4_takeBack_31 : decode cX4_takeBack 31 = .ok (.isub, 1) := dk_100 hN_cX4_takeBack rfl rfl
theorem dX4_takeBack_32 : decode cX4_takeBack 32 = .ok (.putfield 28, 3) := dk_181 hN_cX4_takeBack rfl rfl rfl
theorem dX4_takeBack_35 : decode cX4_takeBack 35 = .ok (.aload_n 0, 1) := dk_42 hN_cX4_takeBack rfl rfl
theorem dX4_takeBack_36 : decode cX4_takeBack 36 = .ok (.getfield 24, 3) := dk_180 hN_cX4_takeBack rfl rfl rfl
theorem dX4_takeBack_39 : decode cX4_takeBack 39 = .ok (.aload_n 0, 1) := dk_42 hN_cX4_takeBack rfl rfl
theorem dX4_takeBack_40 : decode cX4_takeBack 40 = .ok (.getfield 18, 3) := dk_180 hN_cX4_takeBack rfl rfl rfl
theorem dX4_takeBack_43 : decode cX4_takeBack 43 = .ok (.aload_n 0, 1) := dk_42 hN_cX4_takeBack rfl rfl
theorem dX4_takeBack_44 : decode cX4_takeBack 44 = .ok (.getfield 28, 3) := dk_180 hN_cX4_takeBack rfl rfl rfl
theorem dX4_takeBack_47 : decode cX4_takeBack 47 = .ok (.aaload, 1) := dk_50 hN_cX4_takeBack rfl rfl
theorem dX4_takeBack_48 : decode cX4_takeBack 48 = .ok (.invokevirtual 45, 3) := dk_182 hN_cX4_takeBack rfl rfl rfl
theorem dX4_takeBack_51 : decode cX4_takeBack 51 = .ok (.iconst 1, 1) := dk_4 hN_cX4_takeBack rfl rfl
theorem dX4_takeBack_52 : decode cX4_takeBack 52 = .ok (.ireturn, 1) := dk_172 hN_cX4_takeBack rfl rfl
theorem dX4_takeBack_7 : decode cX4_takeBack 7 = .ok (.iconst 0, 1) := dk_3 hN_cX4_takeBack rfl rfl
theorem dX4_takeBack_8 : decode cX4_takeBack 8 = .ok (.ireturn, 1) := dk_172 hN_cX4_takeBack rfl rfl
theorem dX4_makeAgain_0 : decode cX4_makeAgain 0 = .ok (.aload_n 0, 1) := dk_42 hN_cX4_makeAgain rfl rfl
theorem dX4_makeAgain_1 : decode cX4_makeAgain 1 = .ok (.getfield 28, 3) := dk_180 hN_cX4_makeAgain rfl rfl rfl
theorem dX4_makeAgain_4 : decode cX4_makeAgain 4 = .ok (.aload_n 0, 1) := dk_42 hN_cX4_makeAgain rfl rfl
theorem dX4_makeAgain_5 : decode cX4_makeAgain 5 = .ok (.getfield 32, 3) := dk_180 hN_cX4_makeAgain rfl rfl rfl
theorem dX4_makeAgain_8 : decode cX4_makeAgain 8 = .ok (.if_icmp .lt 5, 3) := dk_161 hN_cX4_makeAgain rfl rfl rfl
theorem dX4_makeAgain_13 : decode cX4_makeAgain 13 = .ok (.aload_n 0, 1) := dk_42 hN_cX4_makeAgain rfl rfl
theorem dX4_makeAgain_14 : decode cX4_makeAgain 14 = .ok (.dup, 1) := dk_89 hN_cX4_makeAgain rfl rfl
theorem dX4_makeAgain_15 : decode cX4_makeAgain 15 = .ok (.getfield 28, 3) := dk_180 hN_cX4_makeAgain rfl rfl rfl
theorem dX4_makeAgain_18 : decode cX4_makeAgain 18 = .ok (.iconst 1, 1) := dk_4 hN_cX4_makeAgain rfl rfl
theorem dX4_makeAgain_19 : decode cX4_makeAgain 19 = .ok (.iadd, 1) := dk_96 hN_cX4_makeAgain rfl rfl
theorem dX4_makeAgain_20 : decode cX4_makeAgain 20 = .ok (.putfield 28, 3) := dk_181 hN_cX4_makeAgain rfl rfl rfl
theorem dX4_makeAgain_23 : decode cX4_makeAgain 23 = .ok (.aload_n 0, 1) := dk_42 hN_cX4_makeAgain rfl rfl
theorem dX4_makeAgain_24 : decode cX4_makeAgain 24 = .ok (.getfield 24, 3) := dk_180 hN_cX4_makeAgain rfl rfl rfl
theorem dX4_makeAgain_27 : decode cX4_makeAgain 27 = .ok (.aload_n 0, 1) := dk_42 hN_cX4_makeAgain rfl rfl
theorem dX4_makeAgain_28 : decode cX4_makeAgain 28 = .ok (.getfield 18, 3) := dk_180 hN_cX4_makeAgain rfl rfl rfl
theorem dX4_makeAgain_31 : decode cX4_makeAgain 31 = .ok (.aload_n 0, 1) := dk_42 hN_cX4_makeAgain rfl rfl
theorem dX4_makeAgain_32 : decode cX4_makeAgain 32 = .ok (.getfield 28, 3) := dk_180 hN_cX4_makeAgain rfl rfl rfl
theorem dX4_makeAgain_35 : decode cX4_makeAgain 35 = .ok (.aaload, 1) := dk_50 hN_cX4_makeAgain rfl rfl
theorem dX4_makeAgain_36 : decode cX4_makeAgain 36 = .ok (.invokevirtual 45, 3) := dk_182 hN_cX4_makeAgain rfl rfl rfl
theorem dX4_makeAgain_39 : decode cX4_makeAgain 39 = .ok (.iconst 1, 1) := dk_4 hN_cX4_makeAgain rfl rfl
theorem dX4_makeAgain_40 : decode cX4_makeAgain 40 = .ok (.ireturn, 1) := dk_172 hN_cX4_makeAgain rfl rfl
theorem dX4_makeAgain_11 : decode cX4_makeAgain 11 = .ok (.iconst 0, 1) := dk_3 hN_cX4_makeAgain rfl rfl
theorem dX4_makeAgain_12 : decode cX4_makeAgain 12 = .ok (.ireturn, 1) := dk_172 hN_cX4_makeAgain rfl rfl
theorem dX4_keep_0 : decode cX4_keep 0 = .ok (.aload_n 0, 1) := dk_42 hN_cX4_keep rfl rfl
theorem dX4_keep_1 : decode cX4_keep 1 = .ok (.getfield 24, 3) := dk_180 hN_cX4_keep rfl rfl rfl
theorem dX4_keep_4 : decode cX4_keep 4 = .ok (.aload_n 0, 1) := dk_42 hN_cX4_keep rfl rfl
theorem dX4_keep_5 : decode cX4_keep 5 = .ok (.getfield 21, 3) := dk_180 hN_cX4_keep rfl rfl rfl
theorem dX4_keep_8 : decode cX4_keep 8 = .ok (.aload_n 0, 1) := dk_42 hN_cX4_keep rfl rfl
theorem dX4_keep_9 : decode cX4_keep 9 = .ok (.getfield 35, 3) := dk_180 hN_cX4_keep rfl rfl rfl
theorem dX4_keep_12 : decode cX4_keep 12 = .ok (.aaload, 1) := dk_50 hN_cX4_keep rfl rfl
theorem dX4_keep_13 : decode cX4_keep 13 = .ok (.invokevirtual 41, 3) := dk_182 hN_cX4_keep rfl rfl rfl
theorem dX4_keep_16 : decode cX4_keep 16 = .ok (.aload_n 0, 1) := dk_42 hN_cX4_keep rfl rfl
theorem dX4_keep_17 : decode cX4_keep 17 = .ok (.dup, 1) := dk_89 hN_cX4_keep rfl rfl
theorem dX4_keep_18 : decode cX4_keep 18 = .ok (.getfield 35, 3) := dk_180 hN_cX4_keep rfl rfl rfl
theorem dX4_keep_21 : decode cX4_keep 21 = .ok (.iconst 1, 1) := dk_4 hN_cX4_keep rfl rfl
theorem dX4_keep_22 : decode cX4_keep 22 = .ok (.iadd, 1) := dk_96 hN_cX4_keep rfl rfl
theorem dX4_keep_23 : decode cX4_keep 23 = .ok (.putfield 35, 3) := dk_181 hN_cX4_keep rfl rfl rfl
theorem dX4_keep_26 : decode cX4_keep 26 = .ok (.aload_n 0, 1) := dk_42 hN_cX4_keep rfl rfl
theorem dX4_keep_27 : decode cX4_keep 27 = .ok (.getfield 35, 3) := dk_180 hN_cX4_keep rfl rfl rfl
theorem dX4_keep_30 : decode cX4_keep 30 = .ok (.iconst 1, 1) := dk_4 hN_cX4_keep rfl rfl
theorem dX4_keep_31 : decode cX4_keep 31 = .ok (.isub, 1) := dk_100 hN_cX4_keep rfl rfl
theorem dX4_keep_32 : decode cX4_keep 32 = .ok (.ireturn, 1) := dk_172 hN_cX4_keep rfl rfl
theorem dX4_goBack_0 : decode cX4_goBack 0 = .ok (.iload_n 1, 1) := dk_27 hN_cX4_goBack rfl rfl
theorem dX4_goBack_1 : decode cX4_goBack 1 = .ok (.ifCond .lt 11, 3) := dk_155 hN_cX4_goBack rfl rfl rfl
theorem dX4_goBack_12 : decode cX4_goBack 12 = .ok (.iconst 0, 1) := dk_3 hN_cX4_goBack rfl rfl
theorem dX4_goBack_13 : decode cX4_goBack 13 = .ok (.ireturn, 1) := dk_172 hN_cX4_goBack rfl rfl
theorem dX4_goBack_4 : decode cX4_goBack 4 = .ok (.iload_n 1, 1) := dk_27 hN_cX4_goBack rfl rfl
theorem dX4_goBack_5 : decode cX4_goBack 5 = .ok (.aload_n 0, 1) := dk_42 hN_cX4_goBack rfl rfl
theorem dX4_goBack_6 : decode cX4_goBack 6 = .ok (.getfield 35, 3) := dk_180 hN_cX4_goBack rfl rfl rfl
theorem dX4_goBack_9 : decode cX4_goBack 9 = .ok (.if_icmp .lt 5, 3) := dk_161 hN_cX4_goBack rfl rfl rfl
theorem dX4_goBack_14 : decode cX4_goBack 14 = .ok (.aload_n 0, 1) := dk_42 hN_cX4_goBack rfl rfl
theorem dX4_goBack_15 : decode cX4_goBack 15 = .ok (.getfield 24, 3) := dk_180 hN_cX4_goBack rfl rfl rfl
theorem dX4_goBack_18 : decode cX4_goBack 18 = .ok (.aload_n 0, 1) := dk_42 hN_cX4_goBack rfl rfl
theorem dX4_goBack_19 : decode cX4_goBack 19 = .ok (.getfield 21, 3) := dk_180 hN_cX4_goBack rfl rfl rfl
theorem dX4_goBack_22 : decode cX4_goBack 22 = .ok (.iload_n 1, 1) := dk_27 hN_cX4_goBack rfl rfl
theorem dX4_goBack_23 : decode cX4_goBack 23 = .ok (.aaload, 1) := dk_50 hN_cX4_goBack rfl rfl
theorem dX4_goBack_24 : decode cX4_goBack 24 = .ok (.invokevirtual 45, 3) := dk_182 hN_cX4_goBack rfl rfl rfl
theorem dX4_goBack_27 : decode cX4_goBack 27 = .ok (.aload_n 0, 1) := dk_42 hN_cX4_goBack rfl rfl
theorem dX4_goBack_28 : decode cX4_goBack 28 = .ok (.iconst 0, 1) := dk_3 hN_cX4_goBack rfl rfl
theorem dX4_goBack_29 : decode cX4_goBack 29 = .ok (.putfield 28, 3) := dk_181 hN_cX4_goBack rfl rfl rfl
theorem dX4_goBack_32 : decode cX4_goBack 32 = .ok (.aload_n 0, 1) := dk_42 hN_cX4_goBack rfl rfl
theorem dX4_goBack_33 : decode cX4_goBack 33 = .ok (.iconst 0, 1) := dk_3 hN_cX4_goBack rfl rfl
theorem dX4_goBack_34 : decode cX4_goBack 34 = .ok (.putfield 32, 3) := dk_181 hN_cX4_goBack rfl rfl rfl
theorem dX4_goBack_37 : decode cX4_goBack 37 = .ok (.iconst 1, 1) := dk_4 hN_cX4_goBack rfl rfl
theorem dX4_goBack_38 : decode cX4_goBack 38 = .ok (.ireturn, 1) := dk_172 hN_cX4_goBack rfl rfl
theorem dX0_findShare_0 : decode cX0_findShare 0 = .ok (.aload_n 0, 1) := dk_42 hN_cX0_findShare rfl rfl
theorem dX0_findShare_1 : decode cX0_findShare 1 = .ok (.getfield 27, 3) := dk_180 hN_cX0_findShare rfl rfl rfl
theorem dX0_findShare_4 : decode cX0_findShare 4 = .ok (.getfield 44, 3) := dk_180 hN_cX0_findShare rfl rfl rfl
theorem dX0_findShare_7 : decode cX0_findShare 7 = .ok (.ifCond .ne 13, 3) := dk_154 hN_cX0_findShare rfl rfl rfl
theorem dX0_findShare_20 : decode cX0_findShare 20 = .ok (.aload_n 0, 1) := dk_42 hN_cX0_findShare rfl rfl
theorem dX0_findShare_21 : decode cX0_findShare 21 = .ok (.invokevirtual 53, 3) := dk_182 hN_cX0_findShare rfl rfl rfl
theorem dX0_findShare_24 : decode cX0_findShare 24 = .ok (.aload_n 0, 1) := dk_42 hN_cX0_findShare rfl rfl
theorem dX0_findShare_25 : decode cX0_findShare 25 = .ok (.getfield 31, 3) := dk_180 hN_cX0_findShare rfl rfl rfl
theorem dX0_findShare_28 : decode cX0_findShare 28 = .ok (.aload_n 0, 1) := dk_42 hN_cX0_findShare rfl rfl
theorem dX0_findShare_29 : decode cX0_findShare 29 = .ok (.getfield 13, 3) := dk_180 hN_cX0_findShare rfl rfl rfl
theorem dX0_findShare_32 : decode cX0_findShare 32 = .ok (.bipush 32, 2) := dk_16 hN_cX0_findShare rfl rfl rfl
theorem dX0_findShare_34 : decode cX0_findShare 34 = .ok (.aaload, 1) := dk_50 hN_cX0_findShare rfl rfl
theorem dX0_findShare_35 : decode cX0_findShare 35 = .ok (.aload_n 0, 1) := dk_42 hN_cX0_findShare rfl rfl
theorem dX0_findShare_36 : decode cX0_findShare 36 = .ok (.getfield 56, 3) := dk_180 hN_cX0_findShare rfl rfl rfl
theorem dX0_findShare_39 : decode cX0_findShare 39 = .ok (.laload, 1) := dk_47 hN_cX0_findShare rfl rfl
theorem dX0_findShare_40 : decode cX0_findShare 40 = .ok (.aload_n 0, 1) := dk_42 hN_cX0_findShare rfl rfl
theorem dX0_findShare_41 : decode cX0_findShare 41 = .ok (.getfield 23, 3) := dk_180 hN_cX0_findShare rfl rfl rfl
theorem dX0_findShare_44 : decode cX0_findShare 44 = .ok (.aload_n 0, 1) := dk_42 hN_cX0_findShare rfl rfl
theorem dX0_findShare_45 : decode cX0_findShare 45 = .ok (.getfield 27, 3) := dk_180 hN_cX0_findShare rfl rfl rfl
theorem dX0_findShare_48 : decode cX0_findShare 48 = .ok (.getfield 59, 3) := dk_180 hN_cX0_findShare rfl rfl rfl
theorem dX0_findShare_51 : decode cX0_findShare 51 = .ok (.i2l, 1) := dk_133 hN_cX0_findShare rfl rfl
theorem dX0_findShare_52 : decode cX0_findShare 52 = .ok (.lmul, 1) := dk_105 hN_cX0_findShare rfl rfl
theorem dX0_findShare_53 : decode cX0_findShare 53 = .ok (.invokevirtual 47, 3) := dk_182 hN_cX0_findShare rfl rfl rfl
theorem dX0_findShare_56 : decode cX0_findShare 56 = .ok (.return_, 1) := dk_177 hN_cX0_findShare rfl rfl
theorem dX0_findShare_10 : decode cX0_findShare 10 = .ok (.aload_n 0, 1) := dk_42 hN_cX0_findShare rfl rfl
theorem dX0_findShare_11 : decode cX0_findShare 11 = .ok (.getfield 31, 3) := dk_180 hN_cX0_findShare rfl rfl rfl
theorem dX0_findShare_14 : decode cX0_findShare 14 = .ok (.lconst 1, 1) := dk_10 hN_cX0_findShare rfl rfl
theorem dX0_findShare_15 : decode cX0_findShare 15 = .ok (.lconst 1, 1) := dk_10 hN_cX0_findShare rfl rfl
theorem dX0_findShare_16 : decode cX0_findShare 16 = .ok (.invokevirtual 47, 3) := dk_182 hN_cX0_findShare rfl rfl rfl
theorem dX0_findShare_19 : decode cX0_findShare 19 = .ok (.return_, 1) := dk_177 hN_cX0_findShare rfl rfl
theorem dX0_isMixed_0 : decode cX0_isMixed 0 = .ok (.aload_n 0, 1) := dk_42 hN_cX0_isMixed rfl rfl
theorem dX0_isMixed_1 : decode cX0_isMixed 1 = .ok (.getfield 27, 3) := dk_180 hN_cX0_isMixed rfl rfl rfl
theorem dX0_isMixed_4 : decode cX0_isMixed 4 = .ok (.getfield 44, 3) := dk_180 hN_cX0_isMixed rfl rfl rfl
theorem dX0_isMixed_7 : decode cX0_isMixed 7 = .ok (.ifCond .ne 5, 3) := dk_154 hN_cX0_isMixed rfl rfl rfl
theorem dX0_isMixed_12 : decode cX0_isMixed 12 = .ok (.aload_n 0, 1) := dk_42 hN_cX0_isMixed rfl rfl
theorem dX0_isMixed_13 : decode cX0_isMixed 13 = .ok (.invokevirtual 53, 3) := dk_182 hN_cX0_isMixed rfl rfl rfl
theorem dX0_isMixed_16 : decode cX0_isMixed 16 = .ok (.aload_n 0, 1) := dk_42 hN_cX0_isMixed rfl rfl
theorem dX0_isMixed_17 : decode cX0_isMixed 17 = .ok (.getfield 13, 3) := dk_180 hN_cX0_isMixed rfl rfl rfl
theorem dX0_isMixed_20 : decode cX0_isMixed 20 = .ok (.bipush 32, 2) := dk_16 hN_cX0_isMixed rfl rfl rfl
theorem dX0_isMixed_22 : decode cX0_isMixed 22 = .ok (.aaload, 1) := dk_50 hN_cX0_isMixed rfl rfl
theorem dX0_isMixed_23 : decode cX0_isMixed 23 = .ok (.aload_n 0, 1) := dk_42 hN_cX0_isMixed rfl rfl
theorem dX0_isMixed_24 : decode cX0_isMixed 24 = .ok (.getfield 56, 3) := dk_180 hN_cX0_isMixed rfl rfl rfl
theorem dX0_isMixed_27 : decode cX0_isMixed 27 = .ok (.laload, 1) := dk_47 hN_cX0_isMixed rfl rfl
theorem dX0_isMixed_28 : decode cX0_isMixed 28 = .ok (.aload_n 0, 1) := dk_42 hN_cX0_isMixed rfl rfl
theorem dX0_isMixed_29 : decode cX0_isMixed 29 = .ok (.getfield 23, 3) := dk_180 hN_cX0_isMixed rfl rfl rfl
theorem dX0_isMixed_32 : decode cX0_isMixed 32 = .ok (.aload_n 0, 1) := dk_42 hN_cX0_isMixed rfl rfl
theorem dX0_isMixed_33 : decode cX0_isMixed 33 = .ok (.getfield 27, 3) := dk_180 hN_cX0_isMixed rfl rfl rfl
theorem dX0_isMixed_36 : decode cX0_isMixed 36 = .ok (.getfield 59, 3) := dk_180 hN_cX0_isMixed rfl rfl rfl
theorem dX0_isMixed_39 : decode cX0_isMixed 39 = .ok (.i2l, 1) := dk_133 hN_cX0_isMixed rfl rfl
theorem dX0_isMixed_40 : decode cX0_isMixed 40 = .ok (.lmul, 1) := dk_105 hN_cX0_isMixed rfl rfl
theorem dX0_isMixed_41 : decode cX0_isMixed 41 = .ok (.lcmp, 1) := dk_148 hN_cX0_isMixed rfl rfl
theorem dX0_isMixed_42 : decode cX0_isMixed 42 = .ok (.ifCond .ne 7, 3) := dk_154 hN_cX0_isMixed rfl rfl rfl
theorem dX0_isMixed_49 : decode cX0_isMixed 49 = .ok (.iconst 0, 1) := dk_3 hN_cX0_isMixed rfl rfl
theorem dX0_isMixed_50 : decode cX0_isMixed 50 = .ok (.ireturn, 1) := dk_172 hN_cX0_isMixed rfl rfl
theorem dX0_isMixed_45 : decode cX0_isMixed 45 = .ok (.iconst 1, 1) := dk_4 hN_cX0_isMixed rfl rfl
theorem dX0_isMixed_46 : decode cX0_isMixed 46 = .ok (.goto 4, 3) := dk_167 hN_cX0_isMixed rfl rfl rfl
theorem dX0_isMixed_10 : decode cX0_isMixed 10 = .ok (.iconst 1, 1) := dk_4 hN_cX0_isMixed rfl rfl
theorem dX0_isMixed_11 : decode cX0_isMixed 11 = .ok (.ireturn, 1) := dk_172 hN_cX0_isMixed rfl rfl
theorem dX0_findTogether_0 : decode cX0_findTogether 0 = .ok (.aload_n 0, 1) := dk_42 hN_cX0_findTogether rfl rfl
theorem dX0_findTogether_1 : decode cX0_findTogether 1 = .ok (.getfield 27, 3) := dk_180 hN_cX0_findTogether rfl rfl rfl
theorem dX0_findTogether_4 : decode cX0_findTogether 4 = .ok (.getfield 44, 3) := dk_180 hN_cX0_findTogether rfl rfl rfl
theorem dX0_findTogether_7 : decode cX0_findTogether 7 = .ok (.ifCond .ne 21, 3) := dk_154 hN_cX0_findTogether rfl rfl rfl
theorem dX0_findTogether_28 : decode cX0_findTogether 28 = .ok (.aload_n 0, 1) := dk_42 hN_cX0_findTogether rfl rfl
theorem dX0_findTogether_29 : decode cX0_findTogether 29 = .ok (.invokevirtual 53, 3) := dk_182 hN_cX0_findTogether rfl rfl rfl
theorem dX0_findTogether_32 : decode cX0_findTogether 32 = .ok (.iload_n 3, 1) := dk_29 hN_cX0_findTogether rfl rfl
theorem dX0_findTogether_33 : decode cX0_findTogether 33 = .ok (.ifCond .eq 7, 3) := dk_153 hN_cX0_findTogether rfl rfl rfl
theorem dX0_findTogether_40 : decode cX0_findTogether 40 = .ok (.iconst (-1), 1) := dk_2 hN_cX0_findTogether rfl rfl
theorem dX0_findTogether_41 : decode cX0_findTogether 41 = .ok (.istore 4, 2) := dk_54 hN_cX0_findTogether rfl rfl rfl
theorem dX0_findTogether_43 : decode cX0_findTogether 43 = .ok (.aload_n 0, 1) := dk_42 hN_cX0_findTogether rfl rfl
theorem dX0_findTogether_44 : decode cX0_findTogether 44 = .ok (.iload_n 1, 1) := dk_27 hN_cX0_findTogether rfl rfl
theorem dX0_findTogether_45 : decode cX0_findTogether 45 = .ok (.iload_n 2, 1) := dk_28 hN_cX0_findTogether rfl rfl
theorem dX0_findTogether_46 : decode cX0_findTogether 46 = .ok (.iload 4, 2) := dk_21 hN_cX0_findTogether rfl rfl rfl
theorem dX0_findTogether_48 : decode cX0_findTogether 48 = .ok (.invokevirtual 62, 3) := dk_182 hN_cX0_findTogether rfl rfl rfl
theorem dX0_findTogether_51 : decode cX0_findTogether 51 = .ok (.aload_n 0, 1) := dk_42 hN_cX0_findTogether rfl rfl
theorem dX0_findTogether_52 : decode cX0_findTogether 52 = .ok (.bipush 33, 2) := dk_16 hN_cX0_findTogether rfl rfl rfl
theorem dX0_findTogether_54 : decode cX0_findTogether 54 = .ok (.invokevirtual 66, 3) := dk_182 hN_cX0_findTogether rfl rfl rfl
theorem dX0_findTogether_57 : decode cX0_findTogether 57 = .ok (.aload_n 0, 1) := dk_42 hN_cX0_findTogether rfl rfl
theorem dX0_findTogether_58 : decode cX0_findTogether 58 = .ok (.getfield 31, 3) := dk_180 hN_cX0_findTogether rfl rfl rfl
theorem dX0_findTogether_61 : decode cX0_findTogether 61 = .ok (.iload 4, 2) := dk_21 hN_cX0_findTogether rfl rfl rfl
theorem dX0_findTogether_63 : decode cX0_findTogether 63 = .ok (.i2l, 1) := dk_133 hN_cX0_findTogether rfl rfl
theorem dX0_findTogether_64 : decode cX0_findTogether 64 = .ok (.aload_n 0, 1) := dk_42 hN_cX0_findTogether rfl rfl
theorem dX0_findTogether_65 : decode cX0_findTogether 65 = .ok (.getfield 13, 3) := dk_180 hN_cX0_findTogether rfl rfl rfl
theorem dX0_findTogether_68 : decode cX0_findTogether 68 = .ok (.bipush 33, 2) := dk_16 hN_cX0_findTogether rfl rfl rfl
theorem dX0_findTogether_70 : decode cX0_findTogether 70 = .ok (.aaload, 1) := dk_50 hN_cX0_findTogether rfl rfl
theorem dX0_findTogether_71 : decode cX0_findTogether 71 = .ok (.aload_n 0, 1) := dk_42 hN_cX0_findTogether rfl rfl
theorem dX0_findTogether_72 : decode cX0_findTogether 72 = .ok (.getfield 56, 3) := dk_180 hN_cX0_findTogether rfl rfl rfl
theorem dX0_findTogether_75 : decode cX0_findTogether 75 = .ok (.laload, 1) := dk_47 hN_cX0_findTogether rfl rfl
theorem dX0_findTogether_76 : decode cX0_findTogether 76 = .ok (.lmul, 1) := dk_105 hN_cX0_findTogether rfl rfl
theorem dX0_findTogether_77 : decode cX0_findTogether 77 = .ok (.aload_n 0, 1) := dk_42 hN_cX0_findTogether rfl rfl
theorem dX0_findTogether_78 : decode cX0_findTogether 78 = .ok (.getfield 23, 3) := dk_180 hN_cX0_findTogether rfl rfl rfl
theorem dX0_findTogether_81 : decode cX0_findTogether 81 = .ok (.aload_n 0, 1) := dk_42 hN_cX0_findTogether rfl rfl
theorem dX0_findTogether_82 : decode cX0_findTogether 82 = .ok (.getfield 27, 3) := dk_180 hN_cX0_findTogether rfl rfl rfl
theorem dX0_findTogether_85 : decode cX0_findTogether 85 = .ok (.getfield 59, 3) := dk_180 hN_cX0_findTogether rfl rfl rfl
theorem dX0_findTogether_88 : decode cX0_findTogether 88 = .ok (.i2l, 1) := dk_133 hN_cX0_findTogether rfl rfl
theorem dX0_findTogether_89 : decode cX0_findTogether 89 = .ok (.lmul, 1) := dk_105 hN_cX0_findTogether rfl rfl
theorem dX0_findTogether_90 : decode cX0_findTogether 90 = .ok (.invokevirtual 47, 3) := dk_182 hN_cX0_findTogether rfl rfl rfl
theorem dX0_findTogether_93 : decode cX0_findTogether 93 = .ok (.return_, 1) := dk_177 hN_cX0_findTogether rfl rfl
theorem dX0_findTogether_36 : decode cX0_findTogether 36 = .ok (.iconst 1, 1) := dk_4 hN_cX0_findTogether rfl rfl
theorem dX0_findTogether_37 : decode cX0_findTogether 37 = .ok (.goto 4, 3) := dk_167 hN_cX0_findTogether rfl rfl rfl
theorem dX0_findTogether_10 : decode cX0_findTogether 10 = .ok (.aload_n 0, 1) := dk_42 hN_cX0_findTogether rfl rfl
theorem dX0_findTogether_11 : decode cX0_findTogether 11 = .ok (.getfield 31, 3) := dk_180 hN_cX0_findTogether rfl rfl rfl
theorem dX0_findTogether_14 : decode cX0_findTogether 14 = .ok (.iload_n 3, 1) := dk_29 hN_cX0_findTogether rfl rfl
theorem dX0_findTogether_15 : decode cX0_findTogether 15 = .ok (.ifCond .eq 7, 3) := dk_153 hN_cX0_findTogether rfl rfl rfl
theorem dX0_findTogether_22 : decode cX0_findTogether 22 = .ok (.lconst 0, 1) := dk_9 hN_cX0_findTogether rfl rfl
theorem dX0_findTogether_23 : decode cX0_findTogether 23 = .ok (.lconst 1, 1) := dk_10 hN_cX0_findTogether rfl rfl
theorem dX0_findTogether_24 : decode cX0_findTogether 24 = .ok (.invokevirtual 47, 3) := dk_182 hN_cX0_findTogether rfl rfl rfl
theorem dX0_findTogether_27 : decode cX0_findTogether 27 = .ok (.return_, 1) := dk_177 hN_cX0_findTogether rfl rfl
theorem dX0_findTogether_18 : decode cX0_findTogether 18 = .ok (.lconst 1, 1) := dk_10 hN_cX0_findTogether rfl rfl
theorem dX0_findTogether_19 : decode cX0_findTogether 19 = .ok (.goto 4, 3) := dk_167 hN_cX0_findTogether rfl rfl rfl
theorem dX0_solve_0 : decode cX0_solve 0 = .ok (.aload_n 0, 1) := dk_42 hN_cX0_solve rfl rfl
theorem dX0_solve_1 : decode cX0_solve 1 = .ok (.getfield 41, 3) := dk_180 hN_cX0_solve rfl rfl rfl
theorem dX0_solve_4 : decode cX0_solve 4 = .ok (.aload_n 0, 1) := dk_42 hN_cX0_solve rfl rfl
theorem dX0_solve_5 : decode cX0_solve 5 = .ok (.getfield 27, 3) := dk_180 hN_cX0_solve rfl rfl rfl
theorem dX0_solve_8 : decode cX0_solve 8 = .ok (.getfield 35, 3) := dk_180 hN_cX0_solve rfl rfl rfl
theorem dX0_solve_11 : decode cX0_solve 11 = .ok (.if_icmp .ne 4, 3) := dk_160 hN_cX0_solve rfl rfl rfl
theorem dX0_solve_15 : decode cX0_solve 15 = .ok (.aload_n 0, 1) := dk_42 hN_cX0_solve rfl rfl
theorem dX0_solve_16 : decode cX0_solve 16 = .ok (.aload_n 0, 1) := dk_42 hN_cX0_solve rfl rfl
theorem dX0_solve_17 : decode cX0_solve 17 = .ok (.getfield 27, 3) := dk_180 hN_cX0_solve rfl rfl rfl
theorem dX0_solve_20 : decode cX0_solve 20 = .ok (.getfield 35, 3) := dk_180 hN_cX0_solve rfl rfl rfl
theorem dX0_solve_23 : decode cX0_solve 23 = .ok (.putfield 41, 3) := dk_181 hN_cX0_solve rfl rfl rfl
theorem dX0_solve_26 : decode cX0_solve 26 = .ok (.aload_n 0, 1) := dk_42 hN_cX0_solve rfl rfl
theorem dX0_solve_27 : decode cX0_solve 27 = .ok (.invokevirtual 70, 3) := dk_182 hN_cX0_solve rfl rfl rfl
theorem dX0_solve_30 : decode cX0_solve 30 = .ok (.aload_n 0, 1) := dk_42 hN_cX0_solve rfl rfl
theorem dX0_solve_31 : decode cX0_solve 31 = .ok (.invokevirtual 73, 3) := dk_182 hN_cX0_solve rfl rfl rfl
theorem dX0_solve_34 : decode cX0_solve 34 = .ok (.iconst 0, 1) := dk_3 hN_cX0_solve rfl rfl
theorem dX0_solve_35 : decode cX0_solve 35 = .ok (.istore_n 1, 1) := dk_60 hN_cX0_solve rfl rfl
theorem dX0_solve_14 : decode cX0_solve 14 = .ok (.return_, 1) := dk_177 hN_cX0_solve rfl rfl
theorem dX0_solve_36 : decode cX0_solve 36 = .ok (.iload_n 1, 1) := dk_27 hN_cX0_solve rfl rfl
theorem dX0_solve_37 : decode cX0_solve 37 = .ok (.aload_n 0, 1) := dk_42 hN_cX0_solve rfl rfl
theorem dX0_solve_38 : decode cX0_solve 38 = .ok (.getfield 56, 3) := dk_180 hN_cX0_solve rfl rfl rfl
theorem dX0_solve_41 : decode cX0_solve 41 = .ok (.if_icmp .ge 21, 3) := dk_162 hN_cX0_solve rfl rfl rfl
theorem dX0_solve_62 : decode cX0_solve 62 = .ok (.aload_n 0, 1) := dk_42 hN_cX0_solve rfl rfl
theorem dX0_solve_63 : decode cX0_solve 63 = .ok (.getfield 13, 3) := dk_180 hN_cX0_solve rfl rfl rfl
theorem dX0_solve_66 : decode cX0_solve 66 = .ok (.bipush 32, 2) := dk_16 hN_cX0_solve rfl rfl rfl
theorem dX0_solve_68 : decode cX0_solve 68 = .ok (.aaload, 1) := dk_50 hN_cX0_solve rfl rfl
theorem dX0_solve_69 : decode cX0_solve 69 = .ok (.aload_n 0, 1) := dk_42 hN_cX0_solve rfl rfl
theorem dX0_solve_70 : decode cX0_solve 70 = .ok (.getfield 56, 3) := dk_180 hN_cX0_solve rfl rfl rfl
theorem dX0_solve_73 : decode cX0_solve 73 = .ok (.lconst 0, 1) := dk_9 hN_cX0_solve rfl rfl
theorem dX0_solve_74 : decode cX0_solve 74 = .ok (.lastore, 1) := dk_80 hN_cX0_solve rfl rfl
theorem dX0_solve_75 : decode cX0_solve 75 = .ok (.aload_n 0, 1) := dk_42 hN_cX0_solve rfl rfl
theorem dX0_solve_76 : decode cX0_solve 76 = .ok (.lconst 1, 1) := dk_10 hN_cX0_solve rfl rfl
theorem dX0_solve_77 : decode cX0_solve 77 = .ok (.putfield 23, 3) := dk_181 hN_cX0_solve rfl rfl rfl
theorem dX0_solve_80 : decode cX0_solve 80 = .ok (.aload_n 0, 1) := dk_42 hN_cX0_solve rfl rfl
theorem dX0_solve_81 : decode cX0_solve 81 = .ok (.bipush 32, 2) := dk_16 hN_cX0_solve rfl rfl rfl
theorem dX0_solve_83 : decode cX0_solve 83 = .ok (.invokevirtual 66, 3) := dk_182 hN_cX0_solve rfl rfl rfl
theorem dX0_solve_86 : decode cX0_solve 86 = .ok (.return_, 1) := dk_177 hN_cX0_solve rfl rfl
theorem dX0_solve_44 : decode cX0_solve 44 = .ok (.aload_n 0, 1) := dk_42 hN_cX0_solve rfl rfl
theorem dX0_solve_45 : decode cX0_solve 45 = .ok (.getfield 13, 3) := dk_180 hN_cX0_solve rfl rfl rfl
theorem dX0_solve_48 : decode cX0_solve 48 = .ok (.bipush 32, 2) := dk_16 hN_cX0_solve rfl rfl rfl
theorem dX0_solve_50 : decode cX0_solve 50 = .ok (.aaload, 1) := dk_50 hN_cX0_solve rfl rfl
theorem dX0_solve_51 : decode cX0_solve 51 = .ok (.iload_n 1, 1) := dk_27 hN_cX0_solve rfl rfl
theorem dX0_solve_52 : decode cX0_solve 52 = .ok (.ldc2_w 76, 3) := dk_20 hN_cX0_solve rfl rfl rfl
theorem dX0_solve_55 : decode cX0_solve 55 = .ok (.lastore, 1) := dk_80 hN_cX0_solve rfl rfl
theorem dX0_solve_56 : decode cX0_solve 56 = .ok (.iinc 1 1, 3) := dk_132 hN_cX0_solve rfl rfl rfl rfl
theorem dX0_solve_59 : decode cX0_solve 59 = .ok (.goto (-23), 3) := dk_167 hN_cX0_solve rfl rfl rfl
theorem dX0_nameColumns_0 : decode cX0_nameColumns 0 = .ok (.aload_n 0, 1) := dk_42 hN_cX0_nameColumns rfl rfl
theorem dX0_nameColumns_1 : decode cX0_nameColumns 1 = .ok (.iconst 0, 1) := dk_3 hN_cX0_nameColumns rfl rfl
theorem dX0_nameColumns_2 : decode cX0_nameColumns 2 = .ok (.putfield 56, 3) := dk_181 hN_cX0_nameColumns rfl rfl rfl
theorem dX0_nameColumns_5 : decode cX0_nameColumns 5 = .ok (.iconst 0, 1) := dk_3 hN_cX0_nameColumns rfl rfl
theorem dX0_nameColumns_6 : decode cX0_nameColumns 6 = .ok (.istore_n 1, 1) := dk_60 hN_cX0_nameColumns rfl rfl
theorem dX0_nameColumns_7 : decode cX0_nameColumns 7 = .ok (.iload_n 1, 1) := dk_27 hN_cX0_nameColumns rfl rfl
theorem dX0_nameColumns_8 : decode cX0_nameColumns 8 = .ok (.aload_n 0, 1) := dk_42 hN_cX0_nameColumns rfl rfl
theorem dX0_nameColumns_9 : decode cX0_nameColumns 9 = .ok (.getfield 27, 3) := dk_180 hN_cX0_nameColumns rfl rfl rfl
theorem dX0_nameColumns_12 : decode cX0_nameColumns 12 = .ok (.invokevirtual 78, 3) := dk_182 hN_cX0_nameColumns rfl rfl rfl
theorem dX0_nameColumns_15 : decode cX0_nameColumns 15 = .ok (.if_icmp .ge 40, 3) := dk_162 hN_cX0_nameColumns rfl rfl rfl
theorem dX0_nameColumns_55 : decode cX0_nameColumns 55 = .ok (.return_, 1) := dk_177 hN_cX0_nameColumns rfl rfl
theorem dX0_nameColumns_18 : decode cX0_nameColumns 18 = .ok (.aload_n 0, 1) := dk_42 hN_cX0_nameColumns rfl rfl
theorem dX0_nameColumns_19 : decode cX0_nameColumns 19 = .ok (.getfield 27, 3) := dk_180 hN_cX0_nameColumns rfl rfl rfl
theorem dX0_nameColumns_22 : decode cX0_nameColumns 22 = .ok (.iload_n 1, 1) := dk_27 hN_cX0_nameColumns rfl rfl
theorem dX0_nameColumns_23 : decode cX0_nameColumns 23 = .ok (.invokevirtual 82, 3) := dk_182 hN_cX0_nameColumns rfl rfl rfl
theorem dX0_nameColumns_26 : decode cX0_nameColumns 26 = .ok (.ifCond .ne 23, 3) := dk_154 hN_cX0_nameColumns rfl rfl rfl
theorem dX0_nameColumns_49 : decode cX0_nameColumns 49 = .ok (.iinc 1 1, 3) := dk_132 hN_cX0_nameColumns rfl rfl rfl rfl
theorem dX0_nameColumns_52 : decode cX0_nameColumns 52 = .ok (.goto (-45), 3) := dk_167 hN_cX0_nameColumns rfl rfl rfl
theorem dX0_nameColumns_29 : decode cX0_nameColumns 29 = .ok (.aload_n 0, 1) := dk_42 hN_cX0_nameColumns rfl rfl
theorem dX0_nameColumns_30 : decode cX0_nameColumns 30 = .ok (.getfield 20, 3) := dk_180 hN_cX0_nameColumns rfl rfl rfl
theorem dX0_nameColumns_33 : decode cX0_nameColumns 33 = .ok (.aload_n 0, 1) := dk_42 hN_cX0_nameColumns rfl rfl
theorem dX0_nameColumns_34 : decode cX0_nameColumns 34 = .ok (.getfield 56, 3) := dk_180 hN_cX0_nameColumns rfl rfl rfl
theorem dX0_nameColumns_37 : decode cX0_nameColumns 37 = .ok (.iload_n 1, 1) := dk_27 hN_cX0_nameColumns rfl rfl
theorem dX0_nameColumns_38 : decode cX0_nameColumns 38 = .ok (.iastore, 1) := dk_79 hN_cX0_nameColumns rfl rfl
theorem dX0_nameColumns_39 : decode cX0_nameColumns 39 = .ok (.aload_n 0, 1) := dk_42 hN_cX0_nameColumns rfl rfl
theorem dX0_nameColumns_40 : decode cX0_nameColumns 40 = .ok (.dup, 1) := dk_89 hN_cX0_nameColumns rfl rfl
theorem dX0_nameColumns_41 : decode cX0_nameColumns 41 = .ok (.getfield 56, 3) := dk_180 hN_cX0_nameColumns rfl rfl rfl
theorem dX0_nameColumns_44 : decode cX0_nameColumns 44 = .ok (.iconst 1, 1) := dk_4 hN_cX0_nameColumns rfl rfl
theorem dX0_nameColumns_45 : decode cX0_nameColumns 45 = .ok (.iadd, 1) := dk_96 hN_cX0_nameColumns rfl rfl
theorem dX0_nameColumns_46 : decode cX0_nameColumns 46 = .ok (.putfield 56, 3) := dk_181 hN_cX0_nameColumns rfl rfl rfl
theorem dX0_fillRows_0 : decode cX0_fillRows 0 = .ok (.aload_n 0, 1) := dk_42 hN_cX0_fillRows rfl rfl
theorem dX0_fillRows_1 : decode cX0_fillRows 1 = .ok (.iconst 0, 1) := dk_3 hN_cX0_fillRows rfl rfl
theorem dX0_fillRows_2 : decode cX0_fillRows 2 = .ok (.putfield 86, 3) := dk_181 hN_cX0_fillRows rfl rfl rfl
theorem dX0_fillRows_5 : decode cX0_fillRows 5 = .ok (.iconst 0, 1) := dk_3 hN_cX0_fillRows rfl rfl
theorem dX0_fillRows_6 : decode cX0_fillRows 6 = .ok (.istore_n 1, 1) := dk_60 hN_cX0_fillRows rfl rfl
theorem dX0_fillRows_7 : decode cX0_fillRows 7 = .ok (.iload_n 1, 1) := dk_27 hN_cX0_fillRows rfl rfl
theorem dX0_fillRows_8 : decode cX0_fillRows 8 = .ok (.iconst 4, 1) := dk_7 hN_cX0_fillRows rfl rfl
theorem dX0_fillRows_9 : decode cX0_fillRows 9 = .ok (.aload_n 0, 1) := dk_42 hN_cX0_fillRows rfl rfl
theorem dX0_fillRows_10 : decode cX0_fillRows 10 = .ok (.getfield 27, 3) := dk_180 hN_cX0_fillRows rfl rfl rfl
theorem dX0_fillRows_13 : decode cX0_fillRows 13 = .ok (.getfield 44, 3) := dk_180 hN_cX0_fillRows rfl rfl rfl
theorem dX0_fillRows_16 : decode cX0_fillRows 16 = .ok (.imul, 1) := dk_104 hN_cX0_fillRows rfl rfl
theorem dX0_fillRows_17 : decode cX0_fillRows 17 = .ok (.if_icmp .ge 120, 3) := dk_162 hN_cX0_fillRows rfl rfl rfl
theorem dX0_fillRows_137 : decode cX0_fillRows 137 = .ok (.return_, 1) := dk_177 hN_cX0_fillRows rfl rfl
theorem dX0_fillRows_20 : decode cX0_fillRows 20 = .ok (.aload_n 0, 1) := dk_42 hN_cX0_fillRows rfl rfl
theorem dX0_fillRows_21 : decode cX0_fillRows 21 = .ok (.getfield 27, 3) := dk_180 hN_cX0_fillRows rfl rfl rfl
theorem dX0_fillRows_24 : decode cX0_fillRows 24 = .ok (.getfield 89, 3) := dk_180 hN_cX0_fillRows rfl rfl rfl
theorem dX0_fillRows_27 : decode cX0_fillRows 27 = .ok (.iload_n 1, 1) := dk_27 hN_cX0_fillRows rfl rfl
theorem dX0_fillRows_28 : decode cX0_fillRows 28 = .ok (.iaload, 1) := dk_46 hN_cX0_fillRows rfl rfl
theorem dX0_fillRows_29 : decode cX0_fillRows 29 = .ok (.ifCond .le 102, 3) := dk_158 hN_cX0_fillRows rfl rfl rfl
theorem dX0_fillRows_131 : decode cX0_fillRows 131 = .ok (.iinc 1 1, 3) := dk_132 hN_cX0_fillRows rfl rfl rfl rfl
theorem dX0_fillRows_134 : decode cX0_fillRows 134 = .ok (.goto (-127), 3) := dk_167 hN_cX0_fillRows rfl rfl rfl
theorem dX0_fillRows_32 : decode cX0_fillRows 32 = .ok (.iconst 0, 1) := dk_3 hN_cX0_fillRows rfl rfl
theorem dX0_fillRows_33 : decode cX0_fillRows 33 = .ok (.istore_n 2, 1) := dk_61 hN_cX0_fillRows rfl rfl
theorem dX0_fillRows_34 : decode cX0_fillRows 34 = .ok (.iload_n 2, 1) := dk_28 hN_cX0_fillRows rfl rfl
theorem dX0_fillRows_35 : decode cX0_fillRows 35 = .ok (.aload_n 0, 1) := dk_42 hN_cX0_fillRows rfl rfl
theorem dX0_fillRows_36 : decode cX0_fillRows 36 = .ok (.getfield 56, 3) := dk_180 hN_cX0_fillRows rfl rfl rfl
theorem dX0_fillRows_39 : decode cX0_fillRows 39 = .ok (.if_icmp .ge 45, 3) := dk_162 hN_cX0_fillRows rfl rfl rfl
theorem dX0_fillRows_84 : decode cX0_fillRows 84 = .ok (.aload_n 0, 1) := dk_42 hN_cX0_fillRows rfl rfl
theorem dX0_fillRows_85 : decode cX0_fillRows 85 = .ok (.getfield 13, 3) := dk_180 hN_cX0_fillRows rfl rfl rfl
theorem dX0_fillRows_88 : decode cX0_fillRows 88 = .ok (.aload_n 0, 1) := dk_42 hN_cX0_fillRows rfl rfl
theorem dX0_fillRows_89 : decode cX0_fillRows 89 = .ok (.getfield 86, 3) := dk_180 hN_cX0_fillRows rfl rfl rfl
theorem dX0_fillRows_92 : decode cX0_fillRows 92 = .ok (.aaload, 1) := dk_50 hN_cX0_fillRows rfl rfl
theorem dX0_fillRows_93 : decode cX0_fillRows 93 = .ok (.aload_n 0, 1) := dk_42 hN_cX0_fillRows rfl rfl
theorem dX0_fillRows_94 : decode cX0_fillRows 94 = .ok (.getfield 56, 3) := dk_180 hN_cX0_fillRows rfl rfl rfl
theorem dX0_fillRows_97 : decode cX0_fillRows 97 = .ok (.aload_n 0, 1) := dk_42 hN_cX0_fillRows rfl rfl
theorem dX0_fillRows_98 : decode cX0_fillRows 98 = .ok (.getfield 27, 3) := dk_180 hN_cX0_fillRows rfl rfl rfl
theorem dX0_fillRows_101 : decode cX0_fillRows 101 = .ok (.getfield 89, 3) := dk_180 hN_cX0_fillRows rfl rfl rfl
theorem dX0_fillRows_104 : decode cX0_fillRows 104 = .ok (.iload_n 1, 1) := dk_27 hN_cX0_fillRows rfl rfl
theorem dX0_fillRows_105 : decode cX0_fillRows 105 = .ok (.iaload, 1) := dk_46 hN_cX0_fillRows rfl rfl
theorem dX0_fillRows_106 : decode cX0_fillRows 106 = .ok (.i2l, 1) := dk_133 hN_cX0_fillRows rfl rfl
theorem dX0_fillRows_107 : decode cX0_fillRows 107 = .ok (.lastore, 1) := dk_80 hN_cX0_fillRows rfl rfl
theorem dX0_fillRows_108 : decode cX0_fillRows 108 = .ok (.aload_n 0, 1) := dk_42 hN_cX0_fillRows rfl rfl
theorem dX0_fillRows_109 : decode cX0_fillRows 109 = .ok (.getfield 16, 3) := dk_180 hN_cX0_fillRows rfl rfl rfl
theorem dX0_fillRows_112 : decode cX0_fillRows 112 = .ok (.aload_n 0, 1) := dk_42 hN_cX0_fillRows rfl rfl
theorem dX0_fillRows_113 : decode cX0_fillRows 113 = .ok (.getfield 86, 3) := dk_180 hN_cX0_fillRows rfl rfl rfl
theorem dX0_fillRows_116 : decode cX0_fillRows 116 = .ok (.bipush 64, 2) := dk_16 hN_cX0_fillRows rfl rfl rfl
theorem dX0_fillRows_118 : decode cX0_fillRows 118 = .ok (.iload_n 1, 1) := dk_27 hN_cX0_fillRows rfl rfl
theorem dX0_fillRows_119 : decode cX0_fillRows 119 = .ok (.iadd, 1) := dk_96 hN_cX0_fillRows rfl rfl
theorem dX0_fillRows_120 : decode cX0_fillRows 120 = .ok (.iastore, 1) := dk_79 hN_cX0_fillRows rfl rfl
theorem dX0_fillRows_121 : decode cX0_fillRows 121 = .ok (.aload_n 0, 1) := dk_42 hN_cX0_fillRows rfl rfl
theorem dX0_fillRows_122 : decode cX0_fillRows 122 = .ok (.dup, 1) := dk_89 hN_cX0_fillRows rfl rfl
theorem dX0_fillRows_123 : decode cX0_fillRows 123 = .ok (.getfield 86, 3) := dk_180 hN_cX0_fillRows rfl rfl rfl
theorem dX0_fillRows_126 : decode cX0_fillRows 126 = .ok (.iconst 1, 1) := dk_4 hN_cX0_fillRows rfl rfl
theorem dX0_fillRows_127 : decode cX0_fillRows 127 = .ok (.iadd, 1) := dk_96 hN_cX0_fillRows rfl rfl
theorem dX0_fillRows_128 : decode cX0_fillRows 128 = .ok (.putfield 86, 3) := dk_181 hN_cX0_fillRows rfl rfl rfl
theorem dX0_fillRows_42 : decode cX0_fillRows 42 = .ok (.aload_n 0, 1) := dk_42 hN_cX0_fillRows rfl rfl
theorem dX0_fillRows_43 : decode cX0_fillRows 43 = .ok (.getfield 13, 3) := dk_180 hN_cX0_fillRows rfl rfl rfl
theorem dX0_fillRows_46 : decode cX0_fillRows 46 = .ok (.aload_n 0, 1) := dk_42 hN_cX0_fillRows rfl rfl
theorem dX0_fillRows_47 : decode cX0_fillRows 47 = .ok (.getfield 86, 3) := dk_180 hN_cX0_fillRows rfl rfl rfl
theorem dX0_fillRows_50 : decode cX0_fillRows 50 = .ok (.aaload, 1) := dk_50 hN_cX0_fillRows rfl rfl
theorem dX0_fillRows_51 : decode cX0_fillRows 51 = .ok (.iload_n 2, 1) := dk_28 hN_cX0_fillRows rfl rfl
theorem dX0_fillRows_52 : decode cX0_fillRows 52 = .ok (.aload_n 0, 1) := dk_42 hN_cX0_fillRows rfl rfl
theorem dX0_fillRows_53 : decode cX0_fillRows 53 = .ok (.getfield 27, 3) := dk_180 hN_cX0_fillRows rfl rfl rfl
theorem dX0_fillRows_56 : decode cX0_fillRows 56 = .ok (.iload_n 1, 1) := dk_27 hN_cX0_fillRows rfl rfl
theorem dX0_fillRows_57 : decode cX0_fillRows 57 = .ok (.iconst 4, 1) := dk_7 hN_cX0_fillRows rfl rfl
theorem dX0_fillRows_58 : decode cX0_fillRows 58 = .ok (.idiv, 1) := dk_108 hN_cX0_fillRows rfl rfl
theorem dX0_fillRows_59 : decode cX0_fillRows 59 = .ok (.aload_n 0, 1) := dk_42 hN_cX0_fillRows rfl rfl
theorem dX0_fillRows_60 : decode cX0_fillRows 60 = .ok (.getfield 20, 3) := dk_180 hN_cX0_fillRows rfl rfl rfl
theorem dX0_fillRows_63 : decode cX0_fillRows 63 = .ok (.iload_n 2, 1) := dk_28 hN_cX0_fillRows rfl rfl
theorem dX0_fillRows_64 : decode cX0_fillRows 64 = .ok (.iaload, 1) := dk_46 hN_cX0_fillRows rfl rfl
theorem dX0_fillRows_65 : decode cX0_fillRows 65 = .ok (.invokevirtual 92, 3) := dk_182 hN_cX0_fillRows rfl rfl rfl
theorem dX0_fillRows_68 : decode cX0_fillRows 68 = .ok (.iload_n 1, 1) := dk_27 hN_cX0_fillRows rfl rfl
theorem dX0_fillRows_69 : decode cX0_fillRows 69 = .ok (.if_icmp .ne 7, 3) := dk_160 hN_cX0_fillRows rfl rfl rfl
theorem dX0_fillRows_76 : decode cX0_fillRows 76 = .ok (.lconst 0, 1) := dk_9 hN_cX0_fillRows rfl rfl
theorem dX0_fillRows_77 : decode cX0_fillRows 77 = .ok (.lastore, 1) := dk_80 hN_cX0_fillRows rfl rfl
theorem dX0_fillRows_78 : decode cX0_fillRows 78 = .ok (.iinc 2 1, 3) := dk_132 hN_cX0_fillRows rfl rfl rfl rfl
theorem dX0_fillRows_81 : decode cX0_fillRows 81 = .ok (.goto (-47), 3) := dk_167 hN_cX0_fillRows rfl rfl rfl
theorem dX0_fillRows_72 : decode cX0_fillRows 72 = .ok (.lconst 1, 1) := dk_10 hN_cX0_fillRows rfl rfl
theorem dX0_fillRows_73 : decode cX0_fillRows 73 = .ok (.goto 4, 3) := dk_167 hN_cX0_fillRows rfl rfl rfl
theorem dX0_aim_0 : decode cX0_aim 0 = .ok (.iconst 0, 1) := dk_3 hN_cX0_aim rfl rfl
theorem dX0_aim_1 : decode cX0_aim 1 = .ok (.istore 4, 2) := dk_54 hN_cX0_aim rfl rfl rfl
theorem dX0_aim_3 : decode cX0_aim 3 = .ok (.iload 4, 2) := dk_21 hN_cX0_aim rfl rfl rfl
theorem dX0_aim_5 : decode cX0_aim 5 = .ok (.aload_n 0, 1) := dk_42 hN_cX0_aim rfl rfl
theorem dX0_aim_6 : decode cX0_aim 6 = .ok (.getfield 56, 3) := dk_180 hN_cX0_aim rfl rfl rfl
theorem dX0_aim_9 : decode cX0_aim 9 = .ok (.if_icmp .gt 108, 3) := dk_163 hN_cX0_aim rfl rfl rfl
theorem dX0_aim_117 : decode cX0_aim 117 = .ok (.return_, 1) := dk_177 hN_cX0_aim rfl rfl
theorem dX0_aim_12 : decode cX0_aim 12 = .ok (.lconst 0, 1) := dk_9 hN_cX0_aim rfl rfl
theorem dX0_aim_13 : decode cX0_aim 13 = .ok (.lstore 5, 2) := dk_55 hN_cX0_aim rfl rfl rfl
theorem dX0_aim_15 : decode cX0_aim 15 = .ok (.iconst 0, 1) := dk_3 hN_cX0_aim rfl rfl
theorem dX0_aim_16 : decode cX0_aim 16 = .ok (.istore 7, 2) := dk_54 hN_cX0_aim rfl rfl rfl
theorem dX0_aim_18 : decode cX0_aim 18 = .ok (.iload 7, 2) := dk_21 hN_cX0_aim rfl rfl rfl
theorem dX0_aim_20 : decode cX0_aim 20 = .ok (.aload_n 0, 1) := dk_42 hN_cX0_aim rfl rfl
theorem dX0_aim_21 : decode cX0_aim 21 = .ok (.getfield 86, 3) := dk_180 hN_cX0_aim rfl rfl rfl
theorem dX0_aim_24 : decode cX0_aim 24 = .ok (.if_icmp .ge 39, 3) := dk_162 hN_cX0_aim rfl rfl rfl
theorem dX0_aim_63 : decode cX0_aim 63 = .ok (.iload 4, 2) := dk_21 hN_cX0_aim rfl rfl rfl
theorem dX0_aim_65 : decode cX0_aim 65 = .ok (.aload_n 0, 1) := dk_42 hN_cX0_aim rfl rfl
theorem dX0_aim_66 : decode cX0_aim 66 = .ok (.getfield 56, 3) := dk_180 hN_cX0_aim rfl rfl rfl
theorem dX0_aim_69 : decode cX0_aim 69 = .ok (.if_icmp .ge 27, 3) := dk_162 hN_cX0_aim rfl rfl rfl
theorem dX0_aim_96 : decode cX0_aim 96 = .ok (.aload_n 0, 1) := dk_42 hN_cX0_aim rfl rfl
theorem dX0_aim_97 : decode cX0_aim 97 = .ok (.getfield 13, 3) := dk_180 hN_cX0_aim rfl rfl rfl
theorem dX0_aim_100 : decode cX0_aim 100 = .ok (.bipush 33, 2) := dk_16 hN_cX0_aim rfl rfl rfl
theorem dX0_aim_102 : decode cX0_aim 102 = .ok (.aaload, 1) := dk_50 hN_cX0_aim rfl rfl
theorem dX0_aim_103 : decode cX0_aim 103 = .ok (.iload 4, 2) := dk_21 hN_cX0_aim rfl rfl rfl
theorem dX0_aim_105 : decode cX0_aim 105 = .ok (.iload_n 3, 1) := dk_29 hN_cX0_aim rfl rfl
theorem dX0_aim_106 : decode cX0_aim 106 = .ok (.i2l, 1) := dk_133 hN_cX0_aim rfl rfl
theorem dX0_aim_107 : decode cX0_aim 107 = .ok (.lload 5, 2) := dk_22 hN_cX0_aim rfl rfl rfl
theorem dX0_aim_109 : decode cX0_aim 109 = .ok (.lmul, 1) := dk_105 hN_cX0_aim rfl rfl
theorem dX0_aim_110 : decode cX0_aim 110 = .ok (.lastore, 1) := dk_80 hN_cX0_aim rfl rfl
theorem dX0_aim_111 : decode cX0_aim 111 = .ok (.iinc 4 1, 3) := dk_132 hN_cX0_aim rfl rfl rfl rfl
theorem dX0_aim_114 : decode cX0_aim 114 = .ok (.goto (-111), 3) := dk_167 hN_cX0_aim rfl rfl rfl
theorem dX0_aim_72 : decode cX0_aim 72 = .ok (.aload_n 0, 1) := dk_42 hN_cX0_aim rfl rfl
theorem dX0_aim_73 : decode cX0_aim 73 = .ok (.getfield 20, 3) := dk_180 hN_cX0_aim rfl rfl rfl
theorem dX0_aim_76 : decode cX0_aim 76 = .ok (.iload 4, 2) := dk_21 hN_cX0_aim rfl rfl rfl
theorem dX0_aim_78 : decode cX0_aim 78 = .ok (.iaload, 1) := dk_46 hN_cX0_aim rfl rfl
theorem dX0_aim_79 : decode cX0_aim 79 = .ok (.iload_n 1, 1) := dk_27 hN_cX0_aim rfl rfl
theorem dX0_aim_80 : decode cX0_aim 80 = .ok (.iload_n 2, 1) := dk_28 hN_cX0_aim rfl rfl
theorem dX0_aim_81 : decode cX0_aim 81 = .ok (.invokestatic 96, 3) := dk_184 hN_cX0_aim rfl rfl rfl
theorem dX0_aim_84 : decode cX0_aim 84 = .ok (.ifCond .eq 12, 3) := dk_153 hN_cX0_aim rfl rfl rfl
theorem dX0_aim_87 : decode cX0_aim 87 = .ok (.lload 5, 2) := dk_22 hN_cX0_aim rfl rfl rfl
theorem dX0_aim_89 : decode cX0_aim 89 = .ok (.aload_n 0, 1) := dk_42 hN_cX0_aim rfl rfl
theorem dX0_aim_90 : decode cX0_aim 90 = .ok (.getfield 23, 3) := dk_180 hN_cX0_aim rfl rfl rfl
theorem dX0_aim_93 : decode cX0_aim 93 = .ok (.lsub, 1) := dk_101 hN_cX0_aim rfl rfl
theorem dX0_aim_94 : decode cX0_aim 94 = .ok (.lstore 5, 2) := dk_55 hN_cX0_aim rfl rfl rfl
theorem dX0_aim_27 : decode cX0_aim 27 = .ok (.aload_n 0, 1) := dk_42 hN_cX0_aim rfl rfl
theorem dX0_aim_28 : decode cX0_aim 28 = .ok (.getfield 16, 3) := dk_180 hN_cX0_aim rfl rfl rfl
theorem dX0_aim_31 : decode cX0_aim 31 = .ok (.iload 7, 2) := dk_21 hN_cX0_aim rfl rfl rfl
theorem dX0_aim_33 : decode cX0_aim 33 = .ok (.iaload, 1) := dk_46 hN_cX0_aim rfl rfl
theorem dX0_aim_34 : decode cX0_aim 34 = .ok (.iload_n 1, 1) := dk_27 hN_cX0_aim rfl rfl
theorem dX0_aim_35 : decode cX0_aim 35 = .ok (.iload_n 2, 1) := dk_28 hN_cX0_aim rfl rfl
theorem dX0_aim_36 : decode cX0_aim 36 = .ok (.invokestatic 96, 3) := dk_184 hN_cX0_aim rfl rfl rfl
theorem dX0_aim_39 : decode cX0_aim 39 = .ok (.ifCond .eq 18, 3) := dk_153 hN_cX0_aim rfl rfl rfl
theorem dX0_aim_57 : decode cX0_aim 57 = .ok (.iinc 7 1, 3) := dk_132 hN_cX0_aim rfl rfl rfl rfl
theorem dX0_aim_60 : decode cX0_aim 60 = .ok (.goto (-42), 3) := dk_167 hN_cX0_aim rfl rfl rfl
theorem dX0_aim_42 : decode cX0_aim 42 = .ok (.lload 5, 2) := dk_22 hN_cX0_aim rfl rfl rfl
theorem dX0_aim_44 : decode cX0_aim 44 = .ok (.aload_n 0, 1) := dk_42 hN_cX0_aim rfl rfl
theorem dX0_aim_45 : decode cX0_aim 45 = .ok (.getfield 13, 3) := dk_180 hN_cX0_aim rfl rfl rfl
theorem dX0_aim_48 : decode cX0_aim 48 = .ok (.iload 7, 2) := dk_21 hN_cX0_aim rfl rfl rfl
theorem dX0_aim_50 : decode cX0_aim 50 = .ok (.aaload, 1) := dk_50 hN_cX0_aim rfl rfl
theorem dX0_aim_51 : decode cX0_aim 51 = .ok (.iload 4, 2) := dk_21 hN_cX0_aim rfl rfl rfl
theorem dX0_aim_53 : decode cX0_aim 53 = .ok (.laload, 1) := dk_47 hN_cX0_aim rfl rfl
theorem dX0_aim_54 : decode cX0_aim 54 = .ok (.ladd, 1) := dk_97 hN_cX0_aim rfl rfl
theorem dX0_aim_55 : decode cX0_aim 55 = .ok (.lstore 5, 2) := dk_55 hN_cX0_aim rfl rfl rfl
theorem dX0_isMeant_0 : decode cX0_isMeant 0 = .ok (.iload_n 0, 1) := dk_26 hN_cX0_isMeant rfl rfl
theorem dX0_isMeant_1 : decode cX0_isMeant 1 = .ok (.bipush 64, 2) := dk_16 hN_cX0_isMeant rfl rfl rfl
theorem dX0_isMeant_3 : decode cX0_isMeant 3 = .ok (.if_icmp .ge 14, 3) := dk_162 hN_cX0_isMeant rfl rfl rfl
theorem dX0_isMeant_17 : decode cX0_isMeant 17 = .ok (.iconst 0, 1) := dk_3 hN_cX0_isMeant rfl rfl
theorem dX0_isMeant_18 : decode cX0_isMeant 18 = .ok (.ireturn, 1) := dk_172 hN_cX0_isMeant rfl rfl
theorem dX0_isMeant_6 : decode cX0_isMeant 6 = .ok (.iload_n 0, 1) := dk_26 hN_cX0_isMeant rfl rfl
theorem dX0_isMeant_7 : decode cX0_isMeant 7 = .ok (.iload_n 1, 1) := dk_27 hN_cX0_isMeant rfl rfl
theorem dX0_isMeant_8 : decode cX0_isMeant 8 = .ok (.iand, 1) := dk_126 hN_cX0_isMeant rfl rfl
theorem dX0_isMeant_9 : decode cX0_isMeant 9 = .ok (.iload_n 2, 1) := dk_28 hN_cX0_isMeant rfl rfl
theorem dX0_isMeant_10 : decode cX0_isMeant 10 = .ok (.if_icmp .ne 7, 3) := dk_160 hN_cX0_isMeant rfl rfl rfl
theorem dX0_isMeant_13 : decode cX0_isMeant 13 = .ok (.iconst 1, 1) := dk_4 hN_cX0_isMeant rfl rfl
theorem dX0_isMeant_14 : decode cX0_isMeant 14 = .ok (.goto 4, 3) := dk_167 hN_cX0_isMeant rfl rfl rfl
theorem dX0_climb_0 : decode cX0_climb 0 = .ok (.iconst 0, 1) := dk_3 hN_cX0_climb rfl rfl
theorem dX0_climb_1 : decode cX0_climb 1 = .ok (.istore_n 2, 1) := dk_61 hN_cX0_climb rfl rfl
theorem dX0_climb_2 : decode cX0_climb 2 = .ok (.iload_n 2, 1) := dk_28 hN_cX0_climb rfl rfl
theorem dX0_climb_3 : decode cX0_climb 3 = .ok (.ldc 100, 2) := dk_18 hN_cX0_climb rfl rfl rfl
theorem dX0_climb_5 : decode cX0_climb 5 = .ok (.if_icmp .ge 41, 3) := dk_162 hN_cX0_climb rfl rfl rfl
theorem dX0_climb_46 : decode cX0_climb 46 = .ok (.return_, 1) := dk_177 hN_cX0_climb rfl rfl
theorem dX0_climb_8 : decode cX0_climb 8 = .ok (.aload_n 0, 1) := dk_42 hN_cX0_climb rfl rfl
theorem dX0_climb_9 : decode cX0_climb 9 = .ok (.iload_n 1, 1) := dk_27 hN_cX0_climb rfl rfl
theorem dX0_climb_10 : decode cX0_climb 10 = .ok (.invokevirtual 101, 3) := dk_182 hN_cX0_climb rfl rfl rfl
theorem dX0_climb_13 : decode cX0_climb 13 = .ok (.istore_n 3, 1) := dk_62 hN_cX0_climb rfl rfl
theorem dX0_climb_14 : decode cX0_climb 14 = .ok (.iload_n 3, 1) := dk_29 hN_cX0_climb rfl rfl
theorem dX0_climb_15 : decode cX0_climb 15 = .ok (.ifCond .ge 4, 3) := dk_156 hN_cX0_climb rfl rfl rfl
theorem dX0_climb_19 : decode cX0_climb 19 = .ok (.aload_n 0, 1) := dk_42 hN_cX0_climb rfl rfl
theorem dX0_climb_20 : decode cX0_climb 20 = .ok (.iload_n 3, 1) := dk_29 hN_cX0_climb rfl rfl
theorem dX0_climb_21 : decode cX0_climb 21 = .ok (.invokevirtual 104, 3) := dk_182 hN_cX0_climb rfl rfl rfl
theorem dX0_climb_24 : decode cX0_climb 24 = .ok (.istore 4, 2) := dk_54 hN_cX0_climb rfl rfl rfl
theorem dX0_climb_26 : decode cX0_climb 26 = .ok (.iload 4, 2) := dk_21 hN_cX0_climb rfl rfl rfl
theorem dX0_climb_28 : decode cX0_climb 28 = .ok (.ifCond .ge 4, 3) := dk_156 hN_cX0_climb rfl rfl rfl
