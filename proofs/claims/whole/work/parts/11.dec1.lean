theorem dJ0_charAt_5068e_0 : decode mJ0_charAt_5068e.2.1 0 = .ok (.aload_n 0, 1) := by decide +kernel
theorem dJ0_charAt_5068e_1 : decode mJ0_charAt_5068e.2.1 1 = .ok (.invokevirtual 492, 3) := by decide +kernel
theorem dJ0_charAt_5068e_4 : decode mJ0_charAt_5068e.2.1 4 = .ok (.ifCond .eq 12, 3) := by decide +kernel
theorem dJ0_charAt_5068e_7 : decode mJ0_charAt_5068e.2.1 7 = .ok (.aload_n 0, 1) := by decide +kernel
theorem dJ0_charAt_5068e_8 : decode mJ0_charAt_5068e.2.1 8 = .ok (.getfield 9, 3) := by decide +kernel
theorem dJ0_charAt_5068e_11 : decode mJ0_charAt_5068e.2.1 11 = .ok (.iload_n 1, 1) := by decide +kernel
theorem dJ0_charAt_5068e_12 : decode mJ0_charAt_5068e.2.1 12 = .ok (.invokestatic 495, 3) := by decide +kernel
theorem dJ0_charAt_5068e_15 : decode mJ0_charAt_5068e.2.1 15 = .ok (.ireturn, 1) := by decide +kernel
theorem dJ0_charAt_5068e_16 : decode mJ0_charAt_5068e.2.1 16 = .ok (.aload_n 0, 1) := by decide +kernel
theorem dJ0_charAt_5068e_17 : decode mJ0_charAt_5068e.2.1 17 = .ok (.getfield 9, 3) := by decide +kernel
theorem dJ0_charAt_5068e_20 : decode mJ0_charAt_5068e.2.1 20 = .ok (.iload_n 1, 1) := by decide +kernel
theorem dJ0_charAt_5068e_21 : decode mJ0_charAt_5068e.2.1 21 = .ok (.invokestatic 498, 3) := by decide +kernel
theorem dJ0_charAt_5068e_24 : decode mJ0_charAt_5068e.2.1 24 = .ok (.ireturn, 1) := by decide +kernel
theorem dJ0_checkIndex_df160_0 : decode mJ0_checkIndex_df160.2.1 0 = .ok (.iload_n 0, 1) := by decide +kernel
theorem dJ0_checkIndex_df160_1 : decode mJ0_checkIndex_df160.2.1 1 = .ok (.iload_n 1, 1) := by decide +kernel
theorem dJ0_checkIndex_df160_2 : decode mJ0_checkIndex_df160.2.1 2 = .ok (.getstatic 1053, 3) := by decide +kernel
theorem dJ0_checkIndex_df160_5 : decode mJ0_checkIndex_df160.2.1 5 = .ok (.invokestatic 1059, 3) := by decide +kernel
theorem dJ0_checkIndex_df160_8 : decode mJ0_checkIndex_df160.2.1 8 = .ok (.pop, 1) := by decide +kernel
theorem dJ0_checkIndex_df160_9 : decode mJ0_checkIndex_df160.2.1 9 = .ok (.return_, 1) := by decide +kernel
theorem dJ0_coder_7d493_0 : decode mJ0_coder_7d493.2.1 0 = .ok (.getstatic 38, 3) := by decide +kernel
theorem dJ0_coder_7d493_3 : decode mJ0_coder_7d493.2.1 3 = .ok (.ifCond .eq 10, 3) := by decide +kernel
theorem dJ0_coder_7d493_6 : decode mJ0_coder_7d493.2.1 6 = .ok (.aload_n 0, 1) := by decide +kernel
theorem dJ0_coder_7d493_7 : decode mJ0_coder_7d493.2.1 7 = .ok (.getfield 15, 3) := by decide +kernel
theorem dJ0_coder_7d493_10 : decode mJ0_coder_7d493.2.1 10 = .ok (.goto 4, 3) := by decide +kernel
theorem dJ0_coder_7d493_13 : decode mJ0_coder_7d493.2.1 13 = .ok (.iconst 1, 1) := by decide +kernel
theorem dJ0_coder_7d493_14 : decode mJ0_coder_7d493.2.1 14 = .ok (.ireturn, 1) := by decide +kernel
theorem dJ0_isLatin1_aae02_0 : decode mJ0_isLatin1_aae02.2.1 0 = .ok (.getstatic 38, 3) := by decide +kernel
theorem dJ0_isLatin1_aae02_3 : decode mJ0_isLatin1_aae02.2.1 3 = .ok (.ifCond .eq 14, 3) := by decide +kernel
theorem dJ0_isLatin1_aae02_6 : decode mJ0_isLatin1_aae02.2.1 6 = .ok (.aload_n 0, 1) := by decide +kernel
theorem dJ0_isLatin1_aae02_7 : decode mJ0_isLatin1_aae02.2.1 7 = .ok (.getfield 15, 3) := by decide +kernel
theorem dJ0_isLatin1_aae02_10 : decode mJ0_isLatin1_aae02.2.1 10 = .ok (.ifCond .ne 7, 3) := by decide +kernel
theorem dJ0_isLatin1_aae02_13 : decode mJ0_isLatin1_aae02.2.1 13 = .ok (.iconst 1, 1) := by decide +kernel
theorem dJ0_isLatin1_aae02_14 : decode mJ0_isLatin1_aae02.2.1 14 = .ok (.goto 4, 3) := by decide +kernel
theorem dJ0_isLatin1_aae02_17 : decode mJ0_isLatin1_aae02.2.1 17 = .ok (.iconst 0, 1) := by decide +kernel
theorem dJ0_isLatin1_aae02_18 : decode mJ0_isLatin1_aae02.2.1 18 = .ok (.ireturn, 1) := by decide +kernel
theorem dJ0_length_8abf5_0 : decode mJ0_length_8abf5.2.1 0 = .ok (.aload_n 0, 1) := by decide +kernel
theorem dJ0_length_8abf5_1 : decode mJ0_length_8abf5.2.1 1 = .ok (.getfield 9, 3) := by decide +kernel
theorem dJ0_length_8abf5_4 : decode mJ0_length_8abf5.2.1 4 = .ok (.arraylength, 1) := by decide +kernel
theorem dJ0_length_8abf5_5 : decode mJ0_length_8abf5.2.1 5 = .ok (.aload_n 0, 1) := by decide +kernel
theorem dJ0_length_8abf5_6 : decode mJ0_length_8abf5.2.1 6 = .ok (.invokevirtual 335, 3) := by decide +kernel
theorem dJ0_length_8abf5_9 : decode mJ0_length_8abf5.2.1 9 = .ok (.ishr, 1) := by decide +kernel
theorem dJ0_length_8abf5_10 : decode mJ0_length_8abf5.2.1 10 = .ok (.ireturn, 1) := by decide +kernel
theorem dJ13_bitCount_95d88_0 : decode mJ13_bitCount_95d88.2.1 0 = .ok (.lload_n 0, 1) := by decide +kernel
theorem dJ13_bitCount_95d88_1 : decode mJ13_bitCount_95d88.2.1 1 = .ok (.lload_n 0, 1) := by decide +kernel
theorem dJ13_bitCount_95d88_2 : decode mJ13_bitCount_95d88.2.1 2 = .ok (.iconst 1, 1) := by decide +kernel
theorem dJ13_bitCount_95d88_3 : decode mJ13_bitCount_95d88.2.1 3 = .ok (.lushr, 1) := by decide +kernel
theorem dJ13_bitCount_95d88_4 : decode mJ13_bitCount_95d88.2.1 4 = .ok (.ldc2_w 314, 3) := by decide +kernel
theorem dJ13_bitCount_95d88_7 : decode mJ13_bitCount_95d88.2.1 7 = .ok (.land, 1) := by decide +kernel
theorem dJ13_bitCount_95d88_8 : decode mJ13_bitCount_95d88.2.1 8 = .ok (.lsub, 1) := by decide +kernel
theorem dJ13_bitCount_95d88_9 : decode mJ13_bitCount_95d88.2.1 9 = .ok (.lstore_n 0, 1) := by decide +kernel
theorem dJ13_bitCount_95d88_10 : decode mJ13_bitCount_95d88.2.1 10 = .ok (.lload_n 0, 1) := by decide +kernel
theorem dJ13_bitCount_95d88_11 : decode mJ13_bitCount_95d88.2.1 11 = .ok (.ldc2_w 316, 3) := by decide +kernel
theorem dJ13_bitCount_95d88_14 : decode mJ13_bitCount_95d88.2.1 14 = .ok (.land, 1) := by decide +kernel
theorem dJ13_bitCount_95d88_15 : decode mJ13_bitCount_95d88.2.1 15 = .ok (.lload_n 0, 1) := by decide +kernel
theorem dJ13_bitCount_95d88_16 : decode mJ13_bitCount_95d88.2.1 16 = .ok (.iconst 2, 1) := by decide +kernel
theorem dJ13_bitCount_95d88_17 : decode mJ13_bitCount_95d88.2.1 17 = .ok (.lushr, 1) := by decide +kernel
theorem dJ13_bitCount_95d88_18 : decode mJ13_bitCount_95d88.2.1 18 = .ok (.ldc2_w 316, 3) := by decide +kernel
theorem dJ13_bitCount_95d88_21 : decode mJ13_bitCount_95d88.2.1 21 = .ok (.land, 1) := by decide +kernel
theorem dJ13_bitCount_95d88_22 : decode mJ13_bitCount_95d88.2.1 22 = .ok (.ladd, 1) := by decide +kernel
theorem dJ13_bitCount_95d88_23 : decode mJ13_bitCount_95d88.2.1 23 = .ok (.lstore_n 0, 1) := by decide +kernel
theorem dJ13_bitCount_95d88_24 : decode mJ13_bitCount_95d88.2.1 24 = .ok (.lload_n 0, 1) := by decide +kernel
theorem dJ13_bitCount_95d88_25 : decode mJ13_bitCount_95d88.2.1 25 = .ok (.lload_n 0, 1) := by decide +kernel
theorem dJ13_bitCount_95d88_26 : decode mJ13_bitCount_95d88.2.1 26 = .ok (.iconst 4, 1) := by decide +kernel
theorem dJ13_bitCount_95d88_27 : decode mJ13_bitCount_95d88.2.1 27 = .ok (.lushr, 1) := by decide +kernel
theorem dJ13_bitCount_95d88_28 : decode mJ13_bitCount_95d88.2.1 28 = .ok (.ladd, 1) := by decide +kernel
theorem dJ13_bitCount_95d88_29 : decode mJ13_bitCount_95d88.2.1 29 = .ok (.ldc2_w 318, 3) := by decide +kernel
theorem dJ13_bitCount_95d88_32 : decode mJ13_bitCount_95d88.2.1 32 = .ok (.land, 1) := by decide +kernel
theorem dJ13_bitCount_95d88_33 : decode mJ13_bitCount_95d88.2.1 33 = .ok (.lstore_n 0, 1) := by decide +kernel
theorem dJ13_bitCount_95d88_34 : decode mJ13_bitCount_95d88.2.1 34 = .ok (.lload_n 0, 1) := by decide +kernel
theorem dJ13_bitCount_95d88_35 : decode mJ13_bitCount_95d88.2.1 35 = .ok (.lload_n 0, 1) := by decide +kernel
theorem dJ13_bitCount_95d88_36 : decode mJ13_bitCount_95d88.2.1 36 = .ok (.bipush 8, 2) := by decide +kernel
theorem dJ13_bitCount_95d88_38 : decode mJ13_bitCount_95d88.2.1 38 = .ok (.lushr, 1) := by decide +kernel
theorem dJ13_bitCount_95d88_39 : decode mJ13_bitCount_95d88.2.1 39 = .ok (.ladd, 1) := by decide +kernel
theorem dJ13_bitCount_95d88_40 : decode mJ13_bitCount_95d88.2.1 40 = .ok (.lstore_n 0, 1) := by decide +kernel
theorem dJ13_bitCount_95d88_41 : decode mJ13_bitCount_95d88.2.1 41 = .ok (.lload_n 0, 1) := by decide +kernel
theorem dJ13_bitCount_95d88_42 : decode mJ13_bitCount_95d88.2.1 42 = .ok (.lload_n 0, 1) := by decide +kernel
theorem dJ13_bitCount_95d88_43 : decode mJ13_bitCount_95d88.2.1 43 = .ok (.bipush 16, 2) := by decide +kernel
theorem dJ13_bitCount_95d88_45 : decode mJ13_bitCount_95d88.2.1 45 = .ok (.lushr, 1) := by decide +kernel
theorem dJ13_bitCount_95d88_46 : decode mJ13_bitCount_95d88.2.1 46 = .ok (.ladd, 1) := by decide +kernel
theorem dJ13_bitCount_95d88_47 : decode mJ13_bitCount_95d88.2.1 47 = .ok (.lstore_n 0, 1) := by decide +kernel
theorem dJ13_bitCount_95d88_48 : decode mJ13_bitCount_95d88.2.1 48 = .ok (.lload_n 0, 1) := by decide +kernel
theorem dJ13_bitCount_95d88_49 : decode mJ13_bitCount_95d88.2.1 49 = .ok (.lload_n 0, 1) := by decide +kernel
theorem dJ13_bitCount_95d88_50 : decode mJ13_bitCount_95d88.2.1 50 = .ok (.bipush 32, 2) := by decide +kernel
theorem dJ13_bitCount_95d88_52 : decode mJ13_bitCount_95d88.2.1 52 = .ok (.lushr, 1) := by decide +kernel
theorem dJ13_bitCount_95d88_53 : decode mJ13_bitCount_95d88.2.1 53 = .ok (.ladd, 1) := by decide +kernel
theorem dJ13_bitCount_95d88_54 : decode mJ13_bitCount_95d88.2.1 54 = .ok (.lstore_n 0, 1) := by decide +kernel
theorem dJ13_bitCount_95d88_55 : decode mJ13_bitCount_95d88.2.1 55 = .ok (.lload_n 0, 1) := by decide +kernel
theorem dJ13_bitCount_95d88_56 : decode mJ13_bitCount_95d88.2.1 56 = .ok (.l2i, 1) := by decide +kernel
theorem dJ13_bitCount_95d88_57 : decode mJ13_bitCount_95d88.2.1 57 = .ok (.bipush 127, 2) := by decide +kernel
theorem dJ13_bitCount_95d88_59 : decode mJ13_bitCount_95d88.2.1 59 = .ok (.iand, 1) := by decide +kernel
theorem dJ13_bitCount_95d88_60 : decode mJ13_bitCount_95d88.2.1 60 = .ok (.ireturn, 1) := by decide +kernel
theorem dJ1_charAt_3b067_0 : decode mJ1_charAt_3b067.2.1 0 = .ok (.iload_n 1, 1) := by decide +kernel
theorem dJ1_charAt_3b067_1 : decode mJ1_charAt_3b067.2.1 1 = .ok (.aload_n 0, 1) := by decide +kernel
theorem dJ1_charAt_3b067_2 : decode mJ1_charAt_3b067.2.1 2 = .ok (.arraylength, 1) := by decide +kernel
theorem dJ1_charAt_3b067_3 : decode mJ1_charAt_3b067.2.1 3 = .ok (.invokestatic 9, 3) := by decide +kernel
theorem dJ1_charAt_3b067_6 : decode mJ1_charAt_3b067.2.1 6 = .ok (.aload_n 0, 1) := by decide +kernel
theorem dJ1_charAt_3b067_7 : decode mJ1_charAt_3b067.2.1 7 = .ok (.iload_n 1, 1) := by decide +kernel
theorem dJ1_charAt_3b067_8 : decode mJ1_charAt_3b067.2.1 8 = .ok (.baload, 1) := by decide +kernel
theorem dJ1_charAt_3b067_9 : decode mJ1_charAt_3b067.2.1 9 = .ok (.sipush 255, 3) := by decide +kernel
theorem dJ1_charAt_3b067_12 : decode mJ1_charAt_3b067.2.1 12 = .ok (.iand, 1) := by decide +kernel
theorem dJ1_charAt_3b067_13 : decode mJ1_charAt_3b067.2.1 13 = .ok (.i2c, 1) := by decide +kernel
theorem dJ1_charAt_3b067_14 : decode mJ1_charAt_3b067.2.1 14 = .ok (.ireturn, 1) := by decide +kernel
theorem dJ3_checkIndex_8e157_0 : decode mJ3_checkIndex_8e157.2.1 0 = .ok (.iload_n 0, 1) := by decide +kernel
theorem dJ3_checkIndex_8e157_1 : decode mJ3_checkIndex_8e157.2.1 1 = .ok (.ifCond .lt 8, 3) := by decide +kernel
theorem dJ3_checkIndex_8e157_4 : decode mJ3_checkIndex_8e157.2.1 4 = .ok (.iload_n 0, 1) := by decide +kernel
theorem dJ3_checkIndex_8e157_5 : decode mJ3_checkIndex_8e157.2.1 5 = .ok (.iload_n 1, 1) := by decide +kernel
theorem dJ3_checkIndex_8e157_6 : decode mJ3_checkIndex_8e157.2.1 6 = .ok (.if_icmp .lt 10, 3) := by decide +kernel
theorem dJ3_checkIndex_8e157_9 : decode mJ3_checkIndex_8e157.2.1 9 = .ok (.aload_n 2, 1) := by decide +kernel
theorem dJ3_checkIndex_8e157_10 : decode mJ3_checkIndex_8e157.2.1 10 = .ok (.iload_n 0, 1) := by decide +kernel
theorem dJ3_checkIndex_8e157_11 : decode mJ3_checkIndex_8e157.2.1 11 = .ok (.iload_n 1, 1) := by decide +kernel
theorem dJ3_checkIndex_8e157_12 : decode mJ3_checkIndex_8e157.2.1 12 = .ok (.invokestatic 95, 3) := by decide +kernel
theorem dJ3_checkIndex_8e157_15 : decode mJ3_checkIndex_8e157.2.1 15 = .ok (.athrow, 1) := by decide +kernel
theorem dJ3_checkIndex_8e157_16 : decode mJ3_checkIndex_8e157.2.1 16 = .ok (.iload_n 0, 1) := by decide +kernel
theorem dJ3_checkIndex_8e157_17 : decode mJ3_checkIndex_8e157.2.1 17 = .ok (.ireturn, 1) := by decide +kernel
theorem dJ7_copyOf_59c91_0 : decode mJ7_copyOf_59c91.2.1 0 = .ok (.iload_n 1, 1) := by decide +kernel
theorem dJ7_copyOf_59c91_1 : decode mJ7_copyOf_59c91.2.1 1 = .ok (.aload_n 0, 1) := by decide +kernel
theorem dJ7_copyOf_59c91_2 : decode mJ7_copyOf_59c91.2.1 2 = .ok (.arraylength, 1) := by decide +kernel
theorem dJ7_copyOf_59c91_3 : decode mJ7_copyOf_59c91.2.1 3 = .ok (.if_icmp .ne 11, 3) := by decide +kernel
theorem dJ7_copyOf_59c91_6 : decode mJ7_copyOf_59c91.2.1 6 = .ok (.aload_n 0, 1) := by decide +kernel
theorem dJ7_copyOf_59c91_7 : decode mJ7_copyOf_59c91.2.1 7 = .ok (.invokevirtual 316, 3) := by decide +kernel
theorem dJ7_copyOf_59c91_10 : decode mJ7_copyOf_59c91.2.1 10 = .ok (.checkcast 317, 3) := by decide +kernel
theorem dJ7_copyOf_59c91_13 : decode mJ7_copyOf_59c91.2.1 13 = .ok (.areturn, 1) := by decide +kernel
theorem dJ7_copyOf_59c91_14 : decode mJ7_copyOf_59c91.2.1 14 = .ok (.iload_n 1, 1) := by decide +kernel
theorem dJ7_copyOf_59c91_15 : decode mJ7_copyOf_59c91.2.1 15 = .ok (.newarray .int, 2) := by decide +kernel
theorem dJ7_copyOf_59c91_17 : decode mJ7_copyOf_59c91.2.1 17 = .ok (.astore_n 2, 1) := by decide +kernel
theorem dJ7_copyOf_59c91_18 : decode mJ7_copyOf_59c91.2.1 18 = .ok (.aload_n 0, 1) := by decide +kernel
theorem dJ7_copyOf_59c91_19 : decode mJ7_copyOf_59c91.2.1 19 = .ok (.iconst 0, 1) := by decide +kernel
theorem dJ7_copyOf_59c91_20 : decode mJ7_copyOf_59c91.2.1 20 = .ok (.aload_n 2, 1) := by decide +kernel
theorem dJ7_copyOf_59c91_21 : decode mJ7_copyOf_59c91.2.1 21 = .ok (.iconst 0, 1) := by decide +kernel
theorem dJ7_copyOf_59c91_22 : decode mJ7_copyOf_59c91.2.1 22 = .ok (.aload_n 0, 1) := by decide +kernel
theorem dJ7_copyOf_59c91_23 : decode mJ7_copyOf_59c91.2.1 23 = .ok (.arraylength, 1) := by decide +kernel
theorem dJ7_copyOf_59c91_24 : decode mJ7_copyOf_59c91.2.1 24 = .ok (.iload_n 1, 1) := by decide +kernel
theorem dJ7_copyOf_59c91_25 : decode mJ7_copyOf_59c91.2.1 25 = .ok (.invokestatic 304, 3) := by decide +kernel
theorem dJ7_copyOf_59c91_28 : decode mJ7_copyOf_59c91.2.1 28 = .ok (.invokestatic 150, 3) := by decide +kernel
theorem dJ7_copyOf_59c91_31 : decode mJ7_copyOf_59c91.2.1 31 = .ok (.aload_n 2, 1) := by decide +kernel
theorem dJ7_copyOf_59c91_32 : decode mJ7_copyOf_59c91.2.1 32 = .ok (.areturn, 1) := by decide +kernel
theorem dJ7_copyOf_c38d5_0 : decode mJ7_copyOf_c38d5.2.1 0 = .ok (.iload_n 1, 1) := by decide +kernel
theorem dJ7_copyOf_c38d5_1 : decode mJ7_copyOf_c38d5.2.1 1 = .ok (.aload_n 0, 1) := by decide +kernel
theorem dJ7_copyOf_c38d5_2 : decode mJ7_copyOf_c38d5.2.1 2 = .ok (.arraylength, 1) := by decide +kernel
theorem dJ7_copyOf_c38d5_3 : decode mJ7_copyOf_c38d5.2.1 3 = .ok (.if_icmp .ne 11, 3) := by decide +kernel
theorem dJ7_copyOf_c38d5_6 : decode mJ7_copyOf_c38d5.2.1 6 = .ok (.aload_n 0, 1) := by decide +kernel
theorem dJ7_copyOf_c38d5_7 : decode mJ7_copyOf_c38d5.2.1 7 = .ok (.invokevirtual 319, 3) := by decide +kernel
theorem dJ7_copyOf_c38d5_10 : decode mJ7_copyOf_c38d5.2.1 10 = .ok (.checkcast 320, 3) := by decide +kernel
theorem dJ7_copyOf_c38d5_13 : decode mJ7_copyOf_c38d5.2.1 13 = .ok (.areturn, 1) := by decide +kernel
theorem dJ7_copyOf_c38d5_14 : decode mJ7_copyOf_c38d5.2.1 14 = .ok (.iload_n 1, 1) := by decide +kernel
theorem dJ7_copyOf_c38d5_15 : decode mJ7_copyOf_c38d5.2.1 15 = .ok (.newarray .long, 2) := by decide +kernel
theorem dJ7_copyOf_c38d5_17 : decode mJ7_copyOf_c38d5.2.1 17 = .ok (.astore_n 2, 1) := by decide +kernel
theorem dJ7_copyOf_c38d5_18 : decode mJ7_copyOf_c38d5.2.1 18 = .ok (.aload_n 0, 1) := by decide +kernel
theorem dJ7_copyOf_c38d5_19 : decode mJ7_copyOf_c38d5.2.1 19 = .ok (.iconst 0, 1) := by decide +kernel
theorem dJ7_copyOf_c38d5_20 : decode mJ7_copyOf_c38d5.2.1 20 = .ok (.aload_n 2, 1) := by decide +kernel
theorem dJ7_copyOf_c38d5_21 : decode mJ7_copyOf_c38d5.2.1 21 = .ok (.iconst 0, 1) := by decide +kernel
theorem dJ7_copyOf_c38d5_22 : decode mJ7_copyOf_c38d5.2.1 22 = .ok (.aload_n 0, 1) := by decide +kernel
theorem dJ7_copyOf_c38d5_23 : decode mJ7_copyOf_c38d5.2.1 23 = .ok (.arraylength, 1) := by decide +kernel
theorem dJ7_copyOf_c38d5_24 : decode mJ7_copyOf_c38d5.2.1 24 = .ok (.iload_n 1, 1) := by decide +kernel
theorem dJ7_copyOf_c38d5_25 : decode mJ7_copyOf_c38d5.2.1 25 = .ok (.invokestatic 304, 3) := by decide +kernel
theorem dJ7_copyOf_c38d5_28 : decode mJ7_copyOf_c38d5.2.1 28 = .ok (.invokestatic 150, 3) := by decide +kernel
theorem dJ7_copyOf_c38d5_31 : decode mJ7_copyOf_c38d5.2.1 31 = .ok (.aload_n 2, 1) := by decide +kernel
theorem dJ7_copyOf_c38d5_32 : decode mJ7_copyOf_c38d5.2.1 32 = .ok (.areturn, 1) := by decide +kernel
theorem dJ7_fill_53178_0 : decode mJ7_fill_53178.2.1 0 = .ok (.iconst 0, 1) := by decide +kernel
theorem dJ7_fill_53178_1 : decode mJ7_fill_53178.2.1 1 = .ok (.istore_n 2, 1) := by decide +kernel
theorem dJ7_fill_53178_2 : decode mJ7_fill_53178.2.1 2 = .ok (.aload_n 0, 1) := by decide +kernel
theorem dJ7_fill_53178_3 : decode mJ7_fill_53178.2.1 3 = .ok (.arraylength, 1) := by decide +kernel
theorem dJ7_fill_53178_4 : decode mJ7_fill_53178.2.1 4 = .ok (.istore_n 3, 1) := by decide +kernel
theorem dJ7_fill_53178_5 : decode mJ7_fill_53178.2.1 5 = .ok (.iload_n 2, 1) := by decide +kernel
theorem dJ7_fill_53178_6 : decode mJ7_fill_53178.2.1 6 = .ok (.iload_n 3, 1) := by decide +kernel
theorem dJ7_fill_53178_7 : decode mJ7_fill_53178.2.1 7 = .ok (.if_icmp .ge 13, 3) := by decide +kernel
theorem dJ7_fill_53178_10 : decode mJ7_fill_53178.2.1 10 = .ok (.aload_n 0, 1) := by decide +kernel
theorem dJ7_fill_53178_11 : decode mJ7_fill_53178.2.1 11 = .ok (.iload_n 2, 1) := by decide +kernel
theorem dJ7_fill_53178_12 : decode mJ7_fill_53178.2.1 12 = .ok (.iload_n 1, 1) := by decide +kernel
theorem dJ7_fill_53178_13 : decode mJ7_fill_53178.2.1 13 = .ok (.iastore, 1) := by decide +kernel
theorem dJ7_fill_53178_14 : decode mJ7_fill_53178.2.1 14 = .ok (.iinc 2 1, 3) := by decide +kernel
theorem dJ7_fill_53178_17 : decode mJ7_fill_53178.2.1 17 = .ok (.goto (-12), 3) := by decide +kernel
theorem dJ7_fill_53178_20 : decode mJ7_fill_53178.2.1 20 = .ok (.return_, 1) := by decide +kernel
theorem dJ7_fill_d0a16_0 : decode mJ7_fill_d0a16.2.1 0 = .ok (.iconst 0, 1) := by decide +kernel
theorem dJ7_fill_d0a16_1 : decode mJ7_fill_d0a16.2.1 1 = .ok (.istore_n 3, 1) := by decide +kernel
theorem dJ7_fill_d0a16_2 : decode mJ7_fill_d0a16.2.1 2 = .ok (.aload_n 0, 1) := by decide +kernel
theorem dJ7_fill_d0a16_3 : decode mJ7_fill_d0a16.2.1 3 = .ok (.arraylength, 1) := by decide +kernel
theorem dJ7_fill_d0a16_4 : decode mJ7_fill_d0a16.2.1 4 = .ok (.istore 4, 2) := by decide +kernel
theorem dJ7_fill_d0a16_6 : decode mJ7_fill_d0a16.2.1 6 = .ok (.iload_n 3, 1) := by decide +kernel
theorem dJ7_fill_d0a16_7 : decode mJ7_fill_d0a16.2.1 7 = .ok (.iload 4, 2) := by decide +kernel
theorem dJ7_fill_d0a16_9 : decode mJ7_fill_d0a16.2.1 9 = .ok (.if_icmp .ge 13, 3) := by decide +kernel
theorem dJ7_fill_d0a16_12 : decode mJ7_fill_d0a16.2.1 12 = .ok (.aload_n 0, 1) := by decide +kernel
theorem dJ7_fill_d0a16_13 : decode mJ7_fill_d0a16.2.1 13 = .ok (.iload_n 3, 1) := by decide +kernel
theorem dJ7_fill_d0a16_14 : decode mJ7_fill_d0a16.2.1 14 = .ok (.lload_n 1, 1) := by decide +kernel
theorem dJ7_fill_d0a16_15 : decode mJ7_fill_d0a16.2.1 15 = .ok (.lastore, 1) := by decide +kernel
theorem dJ7_fill_d0a16_16 : decode mJ7_fill_d0a16.2.1 16 = .ok (.iinc 3 1, 3) := by decide +kernel
theorem dJ7_fill_d0a16_19 : decode mJ7_fill_d0a16.2.1 19 = .ok (.goto (-13), 3) := by decide +kernel
theorem dJ7_fill_d0a16_22 : decode mJ7_fill_d0a16.2.1 22 = .ok (.return_, 1) := by decide +kernel
theorem dL_law_0 : decode mL_law.2.1 0 = .ok (.new 7, 3) := by decide +kernel
theorem dL_law_3 : decode mL_law.2.1 3 = .ok (.dup, 1) := by decide +kernel
theorem dL_law_4 : decode mL_law.2.1 4 = .ok (.invokespecial 9, 3) := by decide +kernel
theorem dL_law_7 : decode mL_law.2.1 7 = .ok (.astore_n 1, 1) := by decide +kernel
theorem dL_law_8 : decode mL_law.2.1 8 = .ok (.new 10, 3) := by decide +kernel
theorem dL_law_11 : decode mL_law.2.1 11 = .ok (.dup, 1) := by decide +kernel
theorem dL_law_12 : decode mL_law.2.1 12 = .ok (.invokespecial 12, 3) := by decide +kernel
theorem dL_law_15 : decode mL_law.2.1 15 = .ok (.astore_n 2, 1) := by decide +kernel
theorem dL_law_16 : decode mL_law.2.1 16 = .ok (.iconst 0, 1) := by decide +kernel
theorem dL_law_17 : decode mL_law.2.1 17 = .ok (.istore_n 3, 1) := by decide +kernel
theorem dL_law_18 : decode mL_law.2.1 18 = .ok (.iload_n 3, 1) := by decide +kernel
theorem dL_law_19 : decode mL_law.2.1 19 = .ok (.aload_n 0, 1) := by decide +kernel
theorem dL_law_20 : decode mL_law.2.1 20 = .ok (.arraylength, 1) := by decide +kernel
theorem dL_law_21 : decode mL_law.2.1 21 = .ok (.bipush 6, 2) := by decide +kernel
theorem dL_law_23 : decode mL_law.2.1 23 = .ok (.isub, 1) := by decide +kernel
theorem dL_law_24 : decode mL_law.2.1 24 = .ok (.if_icmp .gt 960, 3) := by decide +kernel
theorem dL_law_27 : decode mL_law.2.1 27 = .ok (.aload_n 0, 1) := by decide +kernel
theorem dL_law_28 : decode mL_law.2.1 28 = .ok (.iload_n 3, 1) := by decide +kernel
theorem dL_law_29 : decode mL_law.2.1 29 = .ok (.iaload, 1) := by decide +kernel
theorem dL_law_30 : decode mL_law.2.1 30 = .ok (.bipush 31, 2) := by decide +kernel
theorem dL_law_32 : decode mL_law.2.1 32 = .ok (.iand, 1) := by decide +kernel
theorem dL_law_33 : decode mL_law.2.1 33 = .ok (.tableswitch 945 0 31 #[143, 206, 229, 242, 265, 278, 311, 344, 357, 370, 383, 396, 419, 432, 455, 468, 501, 534, 567, 580, 603, 636, 659, 702, 741, 774, 797, 830, 853, 876, 899, 922], 143) := by decide +kernel
theorem dL_law_176 : decode mL_law.2.1 176 = .ok (.aload_n 1, 1) := by decide +kernel
theorem dL_law_177 : decode mL_law.2.1 177 = .ok (.aload_n 0, 1) := by decide +kernel
theorem dL_law_178 : decode mL_law.2.1 178 = .ok (.iload_n 3, 1) := by decide +kernel
theorem dL_law_179 : decode mL_law.2.1 179 = .ok (.iconst 1, 1) := by decide +kernel
theorem dL_law_180 : decode mL_law.2.1 180 = .ok (.iadd, 1) := by decide +kernel
theorem dL_law_181 : decode mL_law.2.1 181 = .ok (.iaload, 1) := by decide +kernel
theorem dL_law_182 : decode mL_law.2.1 182 = .ok (.aload_n 0, 1) := by decide +kernel
theorem dL_law_183 : decode mL_law.2.1 183 = .ok (.iload_n 3, 1) := by decide +kernel
theorem dL_law_184 : decode mL_law.2.1 184 = .ok (.iconst 2, 1) := by decide +kernel
theorem dL_law_185 : decode mL_law.2.1 185 = .ok (.iadd, 1) := by decide +kernel
theorem dL_law_186 : decode mL_law.2.1 186 = .ok (.iaload, 1) := by decide +kernel
theorem dL_law_187 : decode mL_law.2.1 187 = .ok (.aload_n 0, 1) := by decide +kernel
theorem dL_law_188 : decode mL_law.2.1 188 = .ok (.iload_n 3, 1) := by decide +kernel
theorem dL_law_189 : decode mL_law.2.1 189 = .ok (.iconst 3, 1) := by decide +kernel
theorem dL_law_190 : decode mL_law.2.1 190 = .ok (.iadd, 1) := by decide +kernel
theorem dL_law_191 : decode mL_law.2.1 191 = .ok (.iaload, 1) := by decide +kernel
theorem dL_law_192 : decode mL_law.2.1 192 = .ok (.aload_n 0, 1) := by decide +kernel
theorem dL_law_193 : decode mL_law.2.1 193 = .ok (.iload_n 3, 1) := by decide +kernel
theorem dL_law_194 : decode mL_law.2.1 194 = .ok (.iconst 4, 1) := by decide +kernel
theorem dL_law_195 : decode mL_law.2.1 195 = .ok (.iadd, 1) := by decide +kernel
theorem dL_law_196 : decode mL_law.2.1 196 = .ok (.iaload, 1) := by decide +kernel
theorem dL_law_197 : decode mL_law.2.1 197 = .ok (.aload_n 0, 1) := by decide +kernel
theorem dL_law_198 : decode mL_law.2.1 198 = .ok (.iload_n 3, 1) := by decide +kernel
theorem dL_law_199 : decode mL_law.2.1 199 = .ok (.iconst 5, 1) := by decide +kernel
theorem dL_law_200 : decode mL_law.2.1 200 = .ok (.iadd, 1) := by decide +kernel
theorem dL_law_201 : decode mL_law.2.1 201 = .ok (.iaload, 1) := by decide +kernel
theorem dL_law_202 : decode mL_law.2.1 202 = .ok (.invokevirtual 13, 3) := by decide +kernel
theorem dL_law_205 : decode mL_law.2.1 205 = .ok (.aload_n 2, 1) := by decide +kernel
theorem dL_law_206 : decode mL_law.2.1 206 = .ok (.aload_n 0, 1) := by decide +kernel
theorem dL_law_207 : decode mL_law.2.1 207 = .ok (.iload_n 3, 1) := by decide +kernel
theorem dL_law_208 : decode mL_law.2.1 208 = .ok (.iconst 1, 1) := by decide +kernel
theorem dL_law_209 : decode mL_law.2.1 209 = .ok (.iadd, 1) := by decide +kernel
theorem dL_law_210 : decode mL_law.2.1 210 = .ok (.iaload, 1) := by decide +kernel
theorem dL_law_211 : decode mL_law.2.1 211 = .ok (.aload_n 0, 1) := by decide +kernel
theorem dL_law_212 : decode mL_law.2.1 212 = .ok (.iload_n 3, 1) := by decide +kernel
theorem dL_law_213 : decode mL_law.2.1 213 = .ok (.iconst 2, 1) := by decide +kernel
theorem dL_law_214 : decode mL_law.2.1 214 = .ok (.iadd, 1) := by decide +kernel
theorem dL_law_215 : decode mL_law.2.1 215 = .ok (.iaload, 1) := by decide +kernel
theorem dL_law_216 : decode mL_law.2.1 216 = .ok (.aload_n 0, 1) := by decide +kernel
theorem dL_law_217 : decode mL_law.2.1 217 = .ok (.iload_n 3, 1) := by decide +kernel
theorem dL_law_218 : decode mL_law.2.1 218 = .ok (.iconst 3, 1) := by decide +kernel
theorem dL_law_219 : decode mL_law.2.1 219 = .ok (.iadd, 1) := by decide +kernel
theorem dL_law_220 : decode mL_law.2.1 220 = .ok (.iaload, 1) := by decide +kernel
theorem dL_law_221 : decode mL_law.2.1 221 = .ok (.aload_n 0, 1) := by decide +kernel
theorem dL_law_222 : decode mL_law.2.1 222 = .ok (.iload_n 3, 1) := by decide +kernel
theorem dL_law_223 : decode mL_law.2.1 223 = .ok (.iconst 4, 1) := by decide +kernel
theorem dL_law_224 : decode mL_law.2.1 224 = .ok (.iadd, 1) := by decide +kernel
theorem dL_law_225 : decode mL_law.2.1 225 = .ok (.iaload, 1) := by decide +kernel
theorem dL_law_226 : decode mL_law.2.1 226 = .ok (.aload_n 0, 1) := by decide +kernel
theorem dL_law_227 : decode mL_law.2.1 227 = .ok (.iload_n 3, 1) := by decide +kernel
theorem dL_law_228 : decode mL_law.2.1 228 = .ok (.iconst 5, 1) := by decide +kernel
theorem dL_law_229 : decode mL_law.2.1 229 = .ok (.iadd, 1) := by decide +kernel
theorem dL_law_230 : decode mL_law.2.1 230 = .ok (.iaload, 1) := by decide +kernel
theorem dL_law_231 : decode mL_law.2.1 231 = .ok (.invokevirtual 17, 3) := by decide +kernel
theorem dL_law_234 : decode mL_law.2.1 234 = .ok (.if_icmp .eq 744, 3) := by decide +kernel
theorem dL_law_237 : decode mL_law.2.1 237 = .ok (.iconst 0, 1) := by decide +kernel
theorem dL_law_238 : decode mL_law.2.1 238 = .ok (.ireturn, 1) := by decide +kernel
theorem dL_law_239 : decode mL_law.2.1 239 = .ok (.aload_n 1, 1) := by decide +kernel
theorem dL_law_240 : decode mL_law.2.1 240 = .ok (.aload_n 0, 1) := by decide +kernel
theorem dL_law_241 : decode mL_law.2.1 241 = .ok (.iload_n 3, 1) := by decide +kernel
theorem dL_law_242 : decode mL_law.2.1 242 = .ok (.iconst 1, 1) := by decide +kernel
theorem dL_law_243 : decode mL_law.2.1 243 = .ok (.iadd, 1) := by decide +kernel
theorem dL_law_244 : decode mL_law.2.1 244 = .ok (.iaload, 1) := by decide +kernel
theorem dL_law_245 : decode mL_law.2.1 245 = .ok (.invokevirtual 18, 3) := by decide +kernel
theorem dL_law_248 : decode mL_law.2.1 248 = .ok (.aload_n 2, 1) := by decide +kernel
theorem dL_law_249 : decode mL_law.2.1 249 = .ok (.aload_n 0, 1) := by decide +kernel
theorem dL_law_250 : decode mL_law.2.1 250 = .ok (.iload_n 3, 1) := by decide +kernel
theorem dL_law_251 : decode mL_law.2.1 251 = .ok (.iconst 1, 1) := by decide +kernel
theorem dL_law_252 : decode mL_law.2.1 252 = .ok (.iadd, 1) := by decide +kernel
theorem dL_law_253 : decode mL_law.2.1 253 = .ok (.iaload, 1) := by decide +kernel
theorem dL_law_254 : decode mL_law.2.1 254 = .ok (.invokevirtual 22, 3) := by decide +kernel
theorem dL_law_257 : decode mL_law.2.1 257 = .ok (.if_icmp .eq 721, 3) := by decide +kernel
theorem dL_law_260 : decode mL_law.2.1 260 = .ok (.iconst 0, 1) := by decide +kernel
theorem dL_law_261 : decode mL_law.2.1 261 = .ok (.ireturn, 1) := by decide +kernel
theorem dL_law_262 : decode mL_law.2.1 262 = .ok (.aload_n 1, 1) := by decide +kernel
theorem dL_law_263 : decode mL_law.2.1 263 = .ok (.invokevirtual 23, 3) := by decide +kernel
theorem dL_law_266 : decode mL_law.2.1 266 = .ok (.aload_n 2, 1) := by decide +kernel
theorem dL_law_267 : decode mL_law.2.1 267 = .ok (.invokevirtual 27, 3) := by decide +kernel
theorem dL_law_270 : decode mL_law.2.1 270 = .ok (.if_icmp .eq 708, 3) := by decide +kernel
theorem dL_law_273 : decode mL_law.2.1 273 = .ok (.iconst 0, 1) := by decide +kernel
theorem dL_law_274 : decode mL_law.2.1 274 = .ok (.ireturn, 1) := by decide +kernel
theorem dL_law_275 : decode mL_law.2.1 275 = .ok (.aload_n 1, 1) := by decide +kernel
theorem dL_law_276 : decode mL_law.2.1 276 = .ok (.aload_n 0, 1) := by decide +kernel
theorem dL_law_277 : decode mL_law.2.1 277 = .ok (.iload_n 3, 1) := by decide +kernel
theorem dL_law_278 : decode mL_law.2.1 278 = .ok (.iconst 1, 1) := by decide +kernel
theorem dL_law_279 : decode mL_law.2.1 279 = .ok (.iadd, 1) := by decide +kernel
theorem dL_law_280 : decode mL_law.2.1 280 = .ok (.iaload, 1) := by decide +kernel
theorem dL_law_281 : decode mL_law.2.1 281 = .ok (.invokevirtual 28, 3) := by decide +kernel
theorem dL_law_284 : decode mL_law.2.1 284 = .ok (.aload_n 2, 1) := by decide +kernel
theorem dL_law_285 : decode mL_law.2.1 285 = .ok (.aload_n 0, 1) := by decide +kernel
theorem dL_law_286 : decode mL_law.2.1 286 = .ok (.iload_n 3, 1) := by decide +kernel
theorem dL_law_287 : decode mL_law.2.1 287 = .ok (.iconst 1, 1) := by decide +kernel
theorem dL_law_288 : decode mL_law.2.1 288 = .ok (.iadd, 1) := by decide +kernel
theorem dL_law_289 : decode mL_law.2.1 289 = .ok (.iaload, 1) := by decide +kernel
theorem dL_law_290 : decode mL_law.2.1 290 = .ok (.invokevirtual 31, 3) := by decide +kernel
theorem dL_law_293 : decode mL_law.2.1 293 = .ok (.if_icmp .eq 685, 3) := by decide +kernel
theorem dL_law_296 : decode mL_law.2.1 296 = .ok (.iconst 0, 1) := by decide +kernel
theorem dL_law_297 : decode mL_law.2.1 297 = .ok (.ireturn, 1) := by decide +kernel
theorem dL_law_298 : decode mL_law.2.1 298 = .ok (.aload_n 1, 1) := by decide +kernel
theorem dL_law_299 : decode mL_law.2.1 299 = .ok (.invokevirtual 32, 3) := by decide +kernel
theorem dL_law_302 : decode mL_law.2.1 302 = .ok (.aload_n 2, 1) := by decide +kernel
theorem dL_law_303 : decode mL_law.2.1 303 = .ok (.invokevirtual 35, 3) := by decide +kernel
theorem dL_law_306 : decode mL_law.2.1 306 = .ok (.if_icmp .eq 672, 3) := by decide +kernel
theorem dL_law_309 : decode mL_law.2.1 309 = .ok (.iconst 0, 1) := by decide +kernel
theorem dL_law_310 : decode mL_law.2.1 310 = .ok (.ireturn, 1) := by decide +kernel
theorem dL_law_311 : decode mL_law.2.1 311 = .ok (.aload_n 1, 1) := by decide +kernel
theorem dL_law_312 : decode mL_law.2.1 312 = .ok (.aload_n 0, 1) := by decide +kernel
theorem dL_law_313 : decode mL_law.2.1 313 = .ok (.iload_n 3, 1) := by decide +kernel
theorem dL_law_314 : decode mL_law.2.1 314 = .ok (.iconst 1, 1) := by decide +kernel
theorem dL_law_315 : decode mL_law.2.1 315 = .ok (.iadd, 1) := by decide +kernel
theorem dL_law_316 : decode mL_law.2.1 316 = .ok (.iaload, 1) := by decide +kernel
theorem dL_law_317 : decode mL_law.2.1 317 = .ok (.aload_n 0, 1) := by decide +kernel
theorem dL_law_318 : decode mL_law.2.1 318 = .ok (.iload_n 3, 1) := by decide +kernel
theorem dL_law_319 : decode mL_law.2.1 319 = .ok (.iconst 2, 1) := by decide +kernel
theorem dL_law_320 : decode mL_law.2.1 320 = .ok (.iadd, 1) := by decide +kernel
theorem dL_law_321 : decode mL_law.2.1 321 = .ok (.iaload, 1) := by decide +kernel
theorem dL_law_322 : decode mL_law.2.1 322 = .ok (.invokevirtual 36, 3) := by decide +kernel
theorem dL_law_325 : decode mL_law.2.1 325 = .ok (.aload_n 2, 1) := by decide +kernel
theorem dL_law_326 : decode mL_law.2.1 326 = .ok (.aload_n 0, 1) := by decide +kernel
theorem dL_law_327 : decode mL_law.2.1 327 = .ok (.iload_n 3, 1) := by decide +kernel
theorem dL_law_328 : decode mL_law.2.1 328 = .ok (.iconst 1, 1) := by decide +kernel
theorem dL_law_329 : decode mL_law.2.1 329 = .ok (.iadd, 1) := by decide +kernel
theorem dL_law_330 : decode mL_law.2.1 330 = .ok (.iaload, 1) := by decide +kernel
theorem dL_law_331 : decode mL_law.2.1 331 = .ok (.aload_n 0, 1) := by decide +kernel
theorem dL_law_332 : decode mL_law.2.1 332 = .ok (.iload_n 3, 1) := by decide +kernel
theorem dL_law_333 : decode mL_law.2.1 333 = .ok (.iconst 2, 1) := by decide +kernel
theorem dL_law_334 : decode mL_law.2.1 334 = .ok (.iadd, 1) := by decide +kernel
theorem dL_law_335 : decode mL_law.2.1 335 = .ok (.iaload, 1) := by decide +kernel
theorem dL_law_336 : decode mL_law.2.1 336 = .ok (.invokevirtual 40, 3) := by decide +kernel
theorem dL_law_339 : decode mL_law.2.1 339 = .ok (.if_icmp .eq 639, 3) := by decide +kernel
theorem dL_law_342 : decode mL_law.2.1 342 = .ok (.iconst 0, 1) := by decide +kernel
theorem dL_law_343 : decode mL_law.2.1 343 = .ok (.ireturn, 1) := by decide +kernel
theorem dL_law_344 : decode mL_law.2.1 344 = .ok (.aload_n 1, 1) := by decide +kernel
theorem dL_law_345 : decode mL_law.2.1 345 = .ok (.aload_n 0, 1) := by decide +kernel
theorem dL_law_346 : decode mL_law.2.1 346 = .ok (.iload_n 3, 1) := by decide +kernel
theorem dL_law_347 : decode mL_law.2.1 347 = .ok (.iconst 1, 1) := by decide +kernel
theorem dL_law_348 : decode mL_law.2.1 348 = .ok (.iadd, 1) := by decide +kernel
theorem dL_law_349 : decode mL_law.2.1 349 = .ok (.iaload, 1) := by decide +kernel
theorem dL_law_350 : decode mL_law.2.1 350 = .ok (.aload_n 0, 1) := by decide +kernel
theorem dL_law_351 : decode mL_law.2.1 351 = .ok (.iload_n 3, 1) := by decide +kernel
theorem dL_law_352 : decode mL_law.2.1 352 = .ok (.iconst 2, 1) := by decide +kernel
theorem dL_law_353 : decode mL_law.2.1 353 = .ok (.iadd, 1) := by decide +kernel
theorem dL_law_354 : decode mL_law.2.1 354 = .ok (.iaload, 1) := by decide +kernel
theorem dL_law_355 : decode mL_law.2.1 355 = .ok (.invokevirtual 41, 3) := by decide +kernel
theorem dL_law_358 : decode mL_law.2.1 358 = .ok (.aload_n 2, 1) := by decide +kernel
theorem dL_law_359 : decode mL_law.2.1 359 = .ok (.aload_n 0, 1) := by decide +kernel
theorem dL_law_360 : decode mL_law.2.1 360 = .ok (.iload_n 3, 1) := by decide +kernel
theorem dL_law_361 : decode mL_law.2.1 361 = .ok (.iconst 1, 1) := by decide +kernel
theorem dL_law_362 : decode mL_law.2.1 362 = .ok (.iadd, 1) := by decide +kernel
theorem dL_law_363 : decode mL_law.2.1 363 = .ok (.iaload, 1) := by decide +kernel
theorem dL_law_364 : decode mL_law.2.1 364 = .ok (.aload_n 0, 1) := by decide +kernel
theorem dL_law_365 : decode mL_law.2.1 365 = .ok (.iload_n 3, 1) := by decide +kernel
theorem dL_law_366 : decode mL_law.2.1 366 = .ok (.iconst 2, 1) := by decide +kernel
theorem dL_law_367 : decode mL_law.2.1 367 = .ok (.iadd, 1) := by decide +kernel
theorem dL_law_368 : decode mL_law.2.1 368 = .ok (.iaload, 1) := by decide +kernel
theorem dL_law_369 : decode mL_law.2.1 369 = .ok (.invokevirtual 44, 3) := by decide +kernel
theorem dL_law_372 : decode mL_law.2.1 372 = .ok (.if_icmp .eq 606, 3) := by decide +kernel
theorem dL_law_375 : decode mL_law.2.1 375 = .ok (.iconst 0, 1) := by decide +kernel
theorem dL_law_376 : decode mL_law.2.1 376 = .ok (.ireturn, 1) := by decide +kernel
theorem dL_law_377 : decode mL_law.2.1 377 = .ok (.aload_n 1, 1) := by decide +kernel
theorem dL_law_378 : decode mL_law.2.1 378 = .ok (.invokevirtual 45, 3) := by decide +kernel
theorem dL_law_381 : decode mL_law.2.1 381 = .ok (.aload_n 2, 1) := by decide +kernel
theorem dL_law_382 : decode mL_law.2.1 382 = .ok (.invokevirtual 48, 3) := by decide +kernel
theorem dL_law_385 : decode mL_law.2.1 385 = .ok (.if_icmp .eq 593, 3) := by decide +kernel
theorem dL_law_388 : decode mL_law.2.1 388 = .ok (.iconst 0, 1) := by decide +kernel
theorem dL_law_389 : decode mL_law.2.1 389 = .ok (.ireturn, 1) := by decide +kernel
theorem dL_law_390 : decode mL_law.2.1 390 = .ok (.aload_n 1, 1) := by decide +kernel
theorem dL_law_391 : decode mL_law.2.1 391 = .ok (.invokevirtual 49, 3) := by decide +kernel
theorem dL_law_394 : decode mL_law.2.1 394 = .ok (.aload_n 2, 1) := by decide +kernel
theorem dL_law_395 : decode mL_law.2.1 395 = .ok (.invokevirtual 52, 3) := by decide +kernel
theorem dL_law_398 : decode mL_law.2.1 398 = .ok (.if_icmp .eq 580, 3) := by decide +kernel
theorem dL_law_401 : decode mL_law.2.1 401 = .ok (.iconst 0, 1) := by decide +kernel
theorem dL_law_402 : decode mL_law.2.1 402 = .ok (.ireturn, 1) := by decide +kernel
theorem dL_law_403 : decode mL_law.2.1 403 = .ok (.aload_n 1, 1) := by decide +kernel
theorem dL_law_404 : decode mL_law.2.1 404 = .ok (.invokevirtual 53, 3) := by decide +kernel
theorem dL_law_407 : decode mL_law.2.1 407 = .ok (.aload_n 2, 1) := by decide +kernel
theorem dL_law_408 : decode mL_law.2.1 408 = .ok (.invokevirtual 56, 3) := by decide +kernel
theorem dL_law_411 : decode mL_law.2.1 411 = .ok (.if_icmp .eq 567, 3) := by decide +kernel
theorem dL_law_414 : decode mL_law.2.1 414 = .ok (.iconst 0, 1) := by decide +kernel
theorem dL_law_415 : decode mL_law.2.1 415 = .ok (.ireturn, 1) := by decide +kernel
theorem dL_law_416 : decode mL_law.2.1 416 = .ok (.aload_n 1, 1) := by decide +kernel
theorem dL_law_417 : decode mL_law.2.1 417 = .ok (.invokevirtual 57, 3) := by decide +kernel
theorem dL_law_420 : decode mL_law.2.1 420 = .ok (.aload_n 2, 1) := by decide +kernel
theorem dL_law_421 : decode mL_law.2.1 421 = .ok (.invokevirtual 60, 3) := by decide +kernel
theorem dL_law_424 : decode mL_law.2.1 424 = .ok (.if_icmp .eq 554, 3) := by decide +kernel
theorem dL_law_427 : decode mL_law.2.1 427 = .ok (.iconst 0, 1) := by decide +kernel
theorem dL_law_428 : decode mL_law.2.1 428 = .ok (.ireturn, 1) := by decide +kernel
theorem dL_law_429 : decode mL_law.2.1 429 = .ok (.aload_n 1, 1) := by decide +kernel
theorem dL_law_430 : decode mL_law.2.1 430 = .ok (.aload_n 0, 1) := by decide +kernel
theorem dL_law_431 : decode mL_law.2.1 431 = .ok (.iload_n 3, 1) := by decide +kernel
theorem dL_law_432 : decode mL_law.2.1 432 = .ok (.iconst 1, 1) := by decide +kernel
theorem dL_law_433 : decode mL_law.2.1 433 = .ok (.iadd, 1) := by decide +kernel
theorem dL_law_434 : decode mL_law.2.1 434 = .ok (.iaload, 1) := by decide +kernel
theorem dL_law_435 : decode mL_law.2.1 435 = .ok (.invokevirtual 61, 3) := by decide +kernel
theorem dL_law_438 : decode mL_law.2.1 438 = .ok (.aload_n 2, 1) := by decide +kernel
theorem dL_law_439 : decode mL_law.2.1 439 = .ok (.aload_n 0, 1) := by decide +kernel
theorem dL_law_440 : decode mL_law.2.1 440 = .ok (.iload_n 3, 1) := by decide +kernel
theorem dL_law_441 : decode mL_law.2.1 441 = .ok (.iconst 1, 1) := by decide +kernel
theorem dL_law_442 : decode mL_law.2.1 442 = .ok (.iadd, 1) := by decide +kernel
theorem dL_law_443 : decode mL_law.2.1 443 = .ok (.iaload, 1) := by decide +kernel
theorem dL_law_444 : decode mL_law.2.1 444 = .ok (.invokevirtual 64, 3) := by decide +kernel
theorem dL_law_447 : decode mL_law.2.1 447 = .ok (.if_icmp .eq 531, 3) := by decide +kernel
theorem dL_law_450 : decode mL_law.2.1 450 = .ok (.iconst 0, 1) := by decide +kernel
theorem dL_law_451 : decode mL_law.2.1 451 = .ok (.ireturn, 1) := by decide +kernel
theorem dL_law_452 : decode mL_law.2.1 452 = .ok (.aload_n 1, 1) := by decide +kernel
theorem dL_law_453 : decode mL_law.2.1 453 = .ok (.invokevirtual 65, 3) := by decide +kernel
theorem dL_law_456 : decode mL_law.2.1 456 = .ok (.aload_n 2, 1) := by decide +kernel
theorem dL_law_457 : decode mL_law.2.1 457 = .ok (.invokevirtual 68, 3) := by decide +kernel
theorem dL_law_460 : decode mL_law.2.1 460 = .ok (.if_icmp .eq 518, 3) := by decide +kernel
theorem dL_law_463 : decode mL_law.2.1 463 = .ok (.iconst 0, 1) := by decide +kernel
theorem dL_law_464 : decode mL_law.2.1 464 = .ok (.ireturn, 1) := by decide +kernel
theorem dL_law_465 : decode mL_law.2.1 465 = .ok (.aload_n 1, 1) := by decide +kernel
theorem dL_law_466 : decode mL_law.2.1 466 = .ok (.aload_n 0, 1) := by decide +kernel
theorem dL_law_467 : decode mL_law.2.1 467 = .ok (.iload_n 3, 1) := by decide +kernel
theorem dL_law_468 : decode mL_law.2.1 468 = .ok (.iconst 1, 1) := by decide +kernel
theorem dL_law_469 : decode mL_law.2.1 469 = .ok (.iadd, 1) := by decide +kernel
theorem dL_law_470 : decode mL_law.2.1 470 = .ok (.iaload, 1) := by decide +kernel
theorem dL_law_471 : decode mL_law.2.1 471 = .ok (.invokevirtual 69, 3) := by decide +kernel
theorem dL_law_474 : decode mL_law.2.1 474 = .ok (.aload_n 2, 1) := by decide +kernel
theorem dL_law_475 : decode mL_law.2.1 475 = .ok (.aload_n 0, 1) := by decide +kernel
theorem dL_law_476 : decode mL_law.2.1 476 = .ok (.iload_n 3, 1) := by decide +kernel
theorem dL_law_477 : decode mL_law.2.1 477 = .ok (.iconst 1, 1) := by decide +kernel
theorem dL_law_478 : decode mL_law.2.1 478 = .ok (.iadd, 1) := by decide +kernel
theorem dL_law_479 : decode mL_law.2.1 479 = .ok (.iaload, 1) := by decide +kernel
theorem dL_law_480 : decode mL_law.2.1 480 = .ok (.invokevirtual 72, 3) := by decide +kernel
theorem dL_law_483 : decode mL_law.2.1 483 = .ok (.if_icmp .eq 495, 3) := by decide +kernel
theorem dL_law_486 : decode mL_law.2.1 486 = .ok (.iconst 0, 1) := by decide +kernel
theorem dL_law_487 : decode mL_law.2.1 487 = .ok (.ireturn, 1) := by decide +kernel
theorem dL_law_488 : decode mL_law.2.1 488 = .ok (.aload_n 1, 1) := by decide +kernel
theorem dL_law_489 : decode mL_law.2.1 489 = .ok (.invokevirtual 73, 3) := by decide +kernel
theorem dL_law_492 : decode mL_law.2.1 492 = .ok (.aload_n 2, 1) := by decide +kernel
theorem dL_law_493 : decode mL_law.2.1 493 = .ok (.invokevirtual 76, 3) := by decide +kernel
theorem dL_law_496 : decode mL_law.2.1 496 = .ok (.if_icmp .eq 482, 3) := by decide +kernel
theorem dL_law_499 : decode mL_law.2.1 499 = .ok (.iconst 0, 1) := by decide +kernel
theorem dL_law_500 : decode mL_law.2.1 500 = .ok (.ireturn, 1) := by decide +kernel
theorem dL_law_501 : decode mL_law.2.1 501 = .ok (.aload_n 1, 1) := by decide +kernel
theorem dL_law_502 : decode mL_law.2.1 502 = .ok (.aload_n 0, 1) := by decide +kernel
theorem dL_law_503 : decode mL_law.2.1 503 = .ok (.iload_n 3, 1) := by decide +kernel
theorem dL_law_504 : decode mL_law.2.1 504 = .ok (.iconst 1, 1) := by decide +kernel
theorem dL_law_505 : decode mL_law.2.1 505 = .ok (.iadd, 1) := by decide +kernel
theorem dL_law_506 : decode mL_law.2.1 506 = .ok (.iaload, 1) := by decide +kernel
theorem dL_law_507 : decode mL_law.2.1 507 = .ok (.aload_n 0, 1) := by decide +kernel
theorem dL_law_508 : decode mL_law.2.1 508 = .ok (.iload_n 3, 1) := by decide +kernel
theorem dL_law_509 : decode mL_law.2.1 509 = .ok (.iconst 2, 1) := by decide +kernel
theorem dL_law_510 : decode mL_law.2.1 510 = .ok (.iadd, 1) := by decide +kernel
theorem dL_law_511 : decode mL_law.2.1 511 = .ok (.iaload, 1) := by decide +kernel
theorem dL_law_512 : decode mL_law.2.1 512 = .ok (.invokevirtual 77, 3) := by decide +kernel
theorem dL_law_515 : decode mL_law.2.1 515 = .ok (.aload_n 2, 1) := by decide +kernel
theorem dL_law_516 : decode mL_law.2.1 516 = .ok (.aload_n 0, 1) := by decide +kernel
theorem dL_law_517 : decode mL_law.2.1 517 = .ok (.iload_n 3, 1) := by decide +kernel
theorem dL_law_518 : decode mL_law.2.1 518 = .ok (.iconst 1, 1) := by decide +kernel
theorem dL_law_519 : decode mL_law.2.1 519 = .ok (.iadd, 1) := by decide +kernel
theorem dL_law_520 : decode mL_law.2.1 520 = .ok (.iaload, 1) := by decide +kernel
theorem dL_law_521 : decode mL_law.2.1 521 = .ok (.aload_n 0, 1) := by decide +kernel
theorem dL_law_522 : decode mL_law.2.1 522 = .ok (.iload_n 3, 1) := by decide +kernel
theorem dL_law_523 : decode mL_law.2.1 523 = .ok (.iconst 2, 1) := by decide +kernel
theorem dL_law_524 : decode mL_law.2.1 524 = .ok (.iadd, 1) := by decide +kernel
theorem dL_law_525 : decode mL_law.2.1 525 = .ok (.iaload, 1) := by decide +kernel
theorem dL_law_526 : decode mL_law.2.1 526 = .ok (.invokevirtual 80, 3) := by decide +kernel
theorem dL_law_529 : decode mL_law.2.1 529 = .ok (.if_icmp .eq 449, 3) := by decide +kernel
theorem dL_law_532 : decode mL_law.2.1 532 = .ok (.iconst 0, 1) := by decide +kernel
theorem dL_law_533 : decode mL_law.2.1 533 = .ok (.ireturn, 1) := by decide +kernel
theorem dL_law_534 : decode mL_law.2.1 534 = .ok (.aload_n 1, 1) := by decide +kernel
theorem dL_law_535 : decode mL_law.2.1 535 = .ok (.aload_n 0, 1) := by decide +kernel
theorem dL_law_536 : decode mL_law.2.1 536 = .ok (.iload_n 3, 1) := by decide +kernel
theorem dL_law_537 : decode mL_law.2.1 537 = .ok (.iconst 1, 1) := by decide +kernel
theorem dL_law_538 : decode mL_law.2.1 538 = .ok (.iadd, 1) := by decide +kernel
theorem dL_law_539 : decode mL_law.2.1 539 = .ok (.iaload, 1) := by decide +kernel
theorem dL_law_540 : decode mL_law.2.1 540 = .ok (.aload_n 0, 1) := by decide +kernel
theorem dL_law_541 : decode mL_law.2.1 541 = .ok (.iload_n 3, 1) := by decide +kernel
theorem dL_law_542 : decode mL_law.2.1 542 = .ok (.iconst 2, 1) := by decide +kernel
theorem dL_law_543 : decode mL_law.2.1 543 = .ok (.iadd, 1) := by decide +kernel
theorem dL_law_544 : decode mL_law.2.1 544 = .ok (.iaload, 1) := by decide +kernel
theorem dL_law_545 : decode mL_law.2.1 545 = .ok (.invokevirtual 81, 3) := by decide +kernel
theorem dL_law_548 : decode mL_law.2.1 548 = .ok (.aload_n 2, 1) := by decide +kernel
theorem dL_law_549 : decode mL_law.2.1 549 = .ok (.aload_n 0, 1) := by decide +kernel
theorem dL_law_550 : decode mL_law.2.1 550 = .ok (.iload_n 3, 1) := by decide +kernel
theorem dL_law_551 : decode mL_law.2.1 551 = .ok (.iconst 1, 1) := by decide +kernel
theorem dL_law_552 : decode mL_law.2.1 552 = .ok (.iadd, 1) := by decide +kernel
theorem dL_law_553 : decode mL_law.2.1 553 = .ok (.iaload, 1) := by decide +kernel
theorem dL_law_554 : decode mL_law.2.1 554 = .ok (.aload_n 0, 1) := by decide +kernel
theorem dL_law_555 : decode mL_law.2.1 555 = .ok (.iload_n 3, 1) := by decide +kernel
theorem dL_law_556 : decode mL_law.2.1 556 = .ok (.iconst 2, 1) := by decide +kernel
theorem dL_law_557 : decode mL_law.2.1 557 = .ok (.iadd, 1) := by decide +kernel
theorem dL_law_558 : decode mL_law.2.1 558 = .ok (.iaload, 1) := by decide +kernel
theorem dL_law_559 : decode mL_law.2.1 559 = .ok (.invokevirtual 84, 3) := by decide +kernel
theorem dL_law_562 : decode mL_law.2.1 562 = .ok (.if_icmp .eq 416, 3) := by decide +kernel
theorem dL_law_565 : decode mL_law.2.1 565 = .ok (.iconst 0, 1) := by decide +kernel
theorem dL_law_566 : decode mL_law.2.1 566 = .ok (.ireturn, 1) := by decide +kernel
theorem dL_law_567 : decode mL_law.2.1 567 = .ok (.aload_n 1, 1) := by decide +kernel
theorem dL_law_568 : decode mL_law.2.1 568 = .ok (.aload_n 0, 1) := by decide +kernel
theorem dL_law_569 : decode mL_law.2.1 569 = .ok (.iload_n 3, 1) := by decide +kernel
theorem dL_law_570 : decode mL_law.2.1 570 = .ok (.iconst 1, 1) := by decide +kernel
theorem dL_law_571 : decode mL_law.2.1 571 = .ok (.iadd, 1) := by decide +kernel
theorem dL_law_572 : decode mL_law.2.1 572 = .ok (.iaload, 1) := by decide +kernel
theorem dL_law_573 : decode mL_law.2.1 573 = .ok (.aload_n 0, 1) := by decide +kernel
theorem dL_law_574 : decode mL_law.2.1 574 = .ok (.iload_n 3, 1) := by decide +kernel
theorem dL_law_575 : decode mL_law.2.1 575 = .ok (.iconst 2, 1) := by decide +kernel
theorem dL_law_576 : decode mL_law.2.1 576 = .ok (.iadd, 1) := by decide +kernel
theorem dL_law_577 : decode mL_law.2.1 577 = .ok (.iaload, 1) := by decide +kernel
theorem dL_law_578 : decode mL_law.2.1 578 = .ok (.invokevirtual 85, 3) := by decide +kernel
theorem dL_law_581 : decode mL_law.2.1 581 = .ok (.aload_n 2, 1) := by decide +kernel
theorem dL_law_582 : decode mL_law.2.1 582 = .ok (.aload_n 0, 1) := by decide +kernel
theorem dL_law_583 : decode mL_law.2.1 583 = .ok (.iload_n 3, 1) := by decide +kernel
theorem dL_law_584 : decode mL_law.2.1 584 = .ok (.iconst 1, 1) := by decide +kernel
theorem dL_law_585 : decode mL_law.2.1 585 = .ok (.iadd, 1) := by decide +kernel
theorem dL_law_586 : decode mL_law.2.1 586 = .ok (.iaload, 1) := by decide +kernel
theorem dL_law_587 : decode mL_law.2.1 587 = .ok (.aload_n 0, 1) := by decide +kernel
theorem dL_law_588 : decode mL_law.2.1 588 = .ok (.iload_n 3, 1) := by decide +kernel
theorem dL_law_589 : decode mL_law.2.1 589 = .ok (.iconst 2, 1) := by decide +kernel
theorem dL_law_590 : decode mL_law.2.1 590 = .ok (.iadd, 1) := by decide +kernel
theorem dL_law_591 : decode mL_law.2.1 591 = .ok (.iaload, 1) := by decide +kernel
theorem dL_law_592 : decode mL_law.2.1 592 = .ok (.invokevirtual 88, 3) := by decide +kernel
theorem dL_law_595 : decode mL_law.2.1 595 = .ok (.if_icmp .eq 383, 3) := by decide +kernel
theorem dL_law_598 : decode mL_law.2.1 598 = .ok (.iconst 0, 1) := by decide +kernel
theorem dL_law_599 : decode mL_law.2.1 599 = .ok (.ireturn, 1) := by decide +kernel
theorem dL_law_600 : decode mL_law.2.1 600 = .ok (.aload_n 1, 1) := by decide +kernel
theorem dL_law_601 : decode mL_law.2.1 601 = .ok (.invokevirtual 89, 3) := by decide +kernel
theorem dL_law_604 : decode mL_law.2.1 604 = .ok (.aload_n 2, 1) := by decide +kernel
theorem dL_law_605 : decode mL_law.2.1 605 = .ok (.invokevirtual 92, 3) := by decide +kernel
theorem dL_law_608 : decode mL_law.2.1 608 = .ok (.if_icmp .eq 370, 3) := by decide +kernel
theorem dL_law_611 : decode mL_law.2.1 611 = .ok (.iconst 0, 1) := by decide +kernel
theorem dL_law_612 : decode mL_law.2.1 612 = .ok (.ireturn, 1) := by decide +kernel
theorem dL_law_613 : decode mL_law.2.1 613 = .ok (.aload_n 1, 1) := by decide +kernel
theorem dL_law_614 : decode mL_law.2.1 614 = .ok (.aload_n 0, 1) := by decide +kernel
theorem dL_law_615 : decode mL_law.2.1 615 = .ok (.iload_n 3, 1) := by decide +kernel
theorem dL_law_616 : decode mL_law.2.1 616 = .ok (.iconst 1, 1) := by decide +kernel
theorem dL_law_617 : decode mL_law.2.1 617 = .ok (.iadd, 1) := by decide +kernel
theorem dL_law_618 : decode mL_law.2.1 618 = .ok (.iaload, 1) := by decide +kernel
theorem dL_law_619 : decode mL_law.2.1 619 = .ok (.invokevirtual 93, 3) := by decide +kernel
theorem dL_law_622 : decode mL_law.2.1 622 = .ok (.aload_n 2, 1) := by decide +kernel
theorem dL_law_623 : decode mL_law.2.1 623 = .ok (.aload_n 0, 1) := by decide +kernel
theorem dL_law_624 : decode mL_law.2.1 624 = .ok (.iload_n 3, 1) := by decide +kernel
theorem dL_law_625 : decode mL_law.2.1 625 = .ok (.iconst 1, 1) := by decide +kernel
theorem dL_law_626 : decode mL_law.2.1 626 = .ok (.iadd, 1) := by decide +kernel
theorem dL_law_627 : decode mL_law.2.1 627 = .ok (.iaload, 1) := by decide +kernel
theorem dL_law_628 : decode mL_law.2.1 628 = .ok (.invokevirtual 96, 3) := by decide +kernel
theorem dL_law_631 : decode mL_law.2.1 631 = .ok (.if_icmp .eq 347, 3) := by decide +kernel
theorem dL_law_634 : decode mL_law.2.1 634 = .ok (.iconst 0, 1) := by decide +kernel
theorem dL_law_635 : decode mL_law.2.1 635 = .ok (.ireturn, 1) := by decide +kernel
theorem dL_law_636 : decode mL_law.2.1 636 = .ok (.aload_n 1, 1) := by decide +kernel
theorem dL_law_637 : decode mL_law.2.1 637 = .ok (.aload_n 0, 1) := by decide +kernel
theorem dL_law_638 : decode mL_law.2.1 638 = .ok (.iload_n 3, 1) := by decide +kernel
theorem dL_law_639 : decode mL_law.2.1 639 = .ok (.iconst 1, 1) := by decide +kernel
theorem dL_law_640 : decode mL_law.2.1 640 = .ok (.iadd, 1) := by decide +kernel
theorem dL_law_641 : decode mL_law.2.1 641 = .ok (.iaload, 1) := by decide +kernel
theorem dL_law_642 : decode mL_law.2.1 642 = .ok (.aload_n 0, 1) := by decide +kernel
theorem dL_law_643 : decode mL_law.2.1 643 = .ok (.iload_n 3, 1) := by decide +kernel
theorem dL_law_644 : decode mL_law.2.1 644 = .ok (.iconst 2, 1) := by decide +kernel
theorem dL_law_645 : decode mL_law.2.1 645 = .ok (.iadd, 1) := by decide +kernel
theorem dL_law_646 : decode mL_law.2.1 646 = .ok (.iaload, 1) := by decide +kernel
theorem dL_law_647 : decode mL_law.2.1 647 = .ok (.invokevirtual 97, 3) := by decide +kernel
theorem dL_law_650 : decode mL_law.2.1 650 = .ok (.aload_n 2, 1) := by decide +kernel
theorem dL_law_651 : decode mL_law.2.1 651 = .ok (.aload_n 0, 1) := by decide +kernel
theorem dL_law_652 : decode mL_law.2.1 652 = .ok (.iload_n 3, 1) := by decide +kernel
theorem dL_law_653 : decode mL_law.2.1 653 = .ok (.iconst 1, 1) := by decide +kernel
theorem dL_law_654 : decode mL_law.2.1 654 = .ok (.iadd, 1) := by decide +kernel
theorem dL_law_655 : decode mL_law.2.1 655 = .ok (.iaload, 1) := by decide +kernel
theorem dL_law_656 : decode mL_law.2.1 656 = .ok (.aload_n 0, 1) := by decide +kernel
theorem dL_law_657 : decode mL_law.2.1 657 = .ok (.iload_n 3, 1) := by decide +kernel
theorem dL_law_658 : decode mL_law.2.1 658 = .ok (.iconst 2, 1) := by decide +kernel
theorem dL_law_659 : decode mL_law.2.1 659 = .ok (.iadd, 1) := by decide +kernel
theorem dL_law_660 : decode mL_law.2.1 660 = .ok (.iaload, 1) := by decide +kernel
theorem dL_law_661 : decode mL_law.2.1 661 = .ok (.invokevirtual 100, 3) := by decide +kernel
theorem dL_law_664 : decode mL_law.2.1 664 = .ok (.if_icmp .eq 314, 3) := by decide +kernel
theorem dL_law_667 : decode mL_law.2.1 667 = .ok (.iconst 0, 1) := by decide +kernel
theorem dL_law_668 : decode mL_law.2.1 668 = .ok (.ireturn, 1) := by decide +kernel
theorem dL_law_669 : decode mL_law.2.1 669 = .ok (.aload_n 1, 1) := by decide +kernel
theorem dL_law_670 : decode mL_law.2.1 670 = .ok (.aload_n 0, 1) := by decide +kernel
theorem dL_law_671 : decode mL_law.2.1 671 = .ok (.iload_n 3, 1) := by decide +kernel
theorem dL_law_672 : decode mL_law.2.1 672 = .ok (.iconst 1, 1) := by decide +kernel
theorem dL_law_673 : decode mL_law.2.1 673 = .ok (.iadd, 1) := by decide +kernel
theorem dL_law_674 : decode mL_law.2.1 674 = .ok (.iaload, 1) := by decide +kernel
theorem dL_law_675 : decode mL_law.2.1 675 = .ok (.invokevirtual 101, 3) := by decide +kernel
theorem dL_law_678 : decode mL_law.2.1 678 = .ok (.aload_n 2, 1) := by decide +kernel
theorem dL_law_679 : decode mL_law.2.1 679 = .ok (.aload_n 0, 1) := by decide +kernel
theorem dL_law_680 : decode mL_law.2.1 680 = .ok (.iload_n 3, 1) := by decide +kernel
theorem dL_law_681 : decode mL_law.2.1 681 = .ok (.iconst 1, 1) := by decide +kernel
theorem dL_law_682 : decode mL_law.2.1 682 = .ok (.iadd, 1) := by decide +kernel
theorem dL_law_683 : decode mL_law.2.1 683 = .ok (.iaload, 1) := by decide +kernel
theorem dL_law_684 : decode mL_law.2.1 684 = .ok (.invokevirtual 104, 3) := by decide +kernel
theorem dL_law_687 : decode mL_law.2.1 687 = .ok (.if_icmp .eq 291, 3) := by decide +kernel
theorem dL_law_690 : decode mL_law.2.1 690 = .ok (.iconst 0, 1) := by decide +kernel
theorem dL_law_691 : decode mL_law.2.1 691 = .ok (.ireturn, 1) := by decide +kernel
theorem dL_law_692 : decode mL_law.2.1 692 = .ok (.aload_n 1, 1) := by decide +kernel
theorem dL_law_693 : decode mL_law.2.1 693 = .ok (.aload_n 0, 1) := by decide +kernel
theorem dL_law_694 : decode mL_law.2.1 694 = .ok (.iload_n 3, 1) := by decide +kernel
theorem dL_law_695 : decode mL_law.2.1 695 = .ok (.iconst 1, 1) := by decide +kernel
theorem dL_law_696 : decode mL_law.2.1 696 = .ok (.iadd, 1) := by decide +kernel
theorem dL_law_697 : decode mL_law.2.1 697 = .ok (.iaload, 1) := by decide +kernel
theorem dL_law_698 : decode mL_law.2.1 698 = .ok (.aload_n 0, 1) := by decide +kernel
theorem dL_law_699 : decode mL_law.2.1 699 = .ok (.iload_n 3, 1) := by decide +kernel
theorem dL_law_700 : decode mL_law.2.1 700 = .ok (.iconst 2, 1) := by decide +kernel
theorem dL_law_701 : decode mL_law.2.1 701 = .ok (.iadd, 1) := by decide +kernel
theorem dL_law_702 : decode mL_law.2.1 702 = .ok (.iaload, 1) := by decide +kernel
theorem dL_law_703 : decode mL_law.2.1 703 = .ok (.aload_n 0, 1) := by decide +kernel
theorem dL_law_704 : decode mL_law.2.1 704 = .ok (.iload_n 3, 1) := by decide +kernel
theorem dL_law_705 : decode mL_law.2.1 705 = .ok (.iconst 3, 1) := by decide +kernel
theorem dL_law_706 : decode mL_law.2.1 706 = .ok (.iadd, 1) := by decide +kernel
theorem dL_law_707 : decode mL_law.2.1 707 = .ok (.iaload, 1) := by decide +kernel
theorem dL_law_708 : decode mL_law.2.1 708 = .ok (.invokevirtual 105, 3) := by decide +kernel
theorem dL_law_711 : decode mL_law.2.1 711 = .ok (.aload_n 2, 1) := by decide +kernel
theorem dL_law_712 : decode mL_law.2.1 712 = .ok (.aload_n 0, 1) := by decide +kernel
theorem dL_law_713 : decode mL_law.2.1 713 = .ok (.iload_n 3, 1) := by decide +kernel
theorem dL_law_714 : decode mL_law.2.1 714 = .ok (.iconst 1, 1) := by decide +kernel
theorem dL_law_715 : decode mL_law.2.1 715 = .ok (.iadd, 1) := by decide +kernel
theorem dL_law_716 : decode mL_law.2.1 716 = .ok (.iaload, 1) := by decide +kernel
theorem dL_law_717 : decode mL_law.2.1 717 = .ok (.aload_n 0, 1) := by decide +kernel
theorem dL_law_718 : decode mL_law.2.1 718 = .ok (.iload_n 3, 1) := by decide +kernel
theorem dL_law_719 : decode mL_law.2.1 719 = .ok (.iconst 2, 1) := by decide +kernel
theorem dL_law_720 : decode mL_law.2.1 720 = .ok (.iadd, 1) := by decide +kernel
theorem dL_law_721 : decode mL_law.2.1 721 = .ok (.iaload, 1) := by decide +kernel
theorem dL_law_722 : decode mL_law.2.1 722 = .ok (.aload_n 0, 1) := by decide +kernel
theorem dL_law_723 : decode mL_law.2.1 723 = .ok (.iload_n 3, 1) := by decide +kernel
theorem dL_law_724 : decode mL_law.2.1 724 = .ok (.iconst 3, 1) := by decide +kernel
theorem dL_law_725 : decode mL_law.2.1 725 = .ok (.iadd, 1) := by decide +kernel
theorem dL_law_726 : decode mL_law.2.1 726 = .ok (.iaload, 1) := by decide +kernel
theorem dL_law_727 : decode mL_law.2.1 727 = .ok (.invokevirtual 109, 3) := by decide +kernel
theorem dL_law_730 : decode mL_law.2.1 730 = .ok (.if_icmp .eq 248, 3) := by decide +kernel
theorem dL_law_733 : decode mL_law.2.1 733 = .ok (.iconst 0, 1) := by decide +kernel
theorem dL_law_734 : decode mL_law.2.1 734 = .ok (.ireturn, 1) := by decide +kernel
theorem dL_law_735 : decode mL_law.2.1 735 = .ok (.aload_n 1, 1) := by decide +kernel
theorem dL_law_736 : decode mL_law.2.1 736 = .ok (.aload_n 0, 1) := by decide +kernel
theorem dL_law_737 : decode mL_law.2.1 737 = .ok (.iload_n 3, 1) := by decide +kernel
theorem dL_law_738 : decode mL_law.2.1 738 = .ok (.iconst 1, 1) := by decide +kernel
theorem dL_law_739 : decode mL_law.2.1 739 = .ok (.iadd, 1) := by decide +kernel
theorem dL_law_740 : decode mL_law.2.1 740 = .ok (.iaload, 1) := by decide +kernel
theorem dL_law_741 : decode mL_law.2.1 741 = .ok (.ifCond .eq 7, 3) := by decide +kernel
theorem dL_law_744 : decode mL_law.2.1 744 = .ok (.iconst 1, 1) := by decide +kernel
theorem dL_law_745 : decode mL_law.2.1 745 = .ok (.goto 4, 3) := by decide +kernel
theorem dL_law_748 : decode mL_law.2.1 748 = .ok (.iconst 0, 1) := by decide +kernel
theorem dL_law_749 : decode mL_law.2.1 749 = .ok (.invokevirtual 110, 3) := by decide +kernel
theorem dL_law_752 : decode mL_law.2.1 752 = .ok (.aload_n 2, 1) := by decide +kernel
theorem dL_law_753 : decode mL_law.2.1 753 = .ok (.aload_n 0, 1) := by decide +kernel
theorem dL_law_754 : decode mL_law.2.1 754 = .ok (.iload_n 3, 1) := by decide +kernel
theorem dL_law_755 : decode mL_law.2.1 755 = .ok (.iconst 1, 1) := by decide +kernel
theorem dL_law_756 : decode mL_law.2.1 756 = .ok (.iadd, 1) := by decide +kernel
theorem dL_law_757 : decode mL_law.2.1 757 = .ok (.iaload, 1) := by decide +kernel
theorem dL_law_758 : decode mL_law.2.1 758 = .ok (.ifCond .eq 7, 3) := by decide +kernel
theorem dL_law_761 : decode mL_law.2.1 761 = .ok (.iconst 1, 1) := by decide +kernel
theorem dL_law_762 : decode mL_law.2.1 762 = .ok (.goto 4, 3) := by decide +kernel
theorem dL_law_765 : decode mL_law.2.1 765 = .ok (.iconst 0, 1) := by decide +kernel
theorem dL_law_766 : decode mL_law.2.1 766 = .ok (.invokevirtual 114, 3) := by decide +kernel
theorem dL_law_769 : decode mL_law.2.1 769 = .ok (.if_icmp .eq 209, 3) := by decide +kernel
theorem dL_law_772 : decode mL_law.2.1 772 = .ok (.iconst 0, 1) := by decide +kernel
theorem dL_law_773 : decode mL_law.2.1 773 = .ok (.ireturn, 1) := by decide +kernel
theorem dL_law_774 : decode mL_law.2.1 774 = .ok (.aload_n 1, 1) := by decide +kernel
theorem dL_law_775 : decode mL_law.2.1 775 = .ok (.aload_n 0, 1) := by decide +kernel
theorem dL_law_776 : decode mL_law.2.1 776 = .ok (.iload_n 3, 1) := by decide +kernel
theorem dL_law_777 : decode mL_law.2.1 777 = .ok (.iconst 1, 1) := by decide +kernel
theorem dL_law_778 : decode mL_law.2.1 778 = .ok (.iadd, 1) := by decide +kernel
theorem dL_law_779 : decode mL_law.2.1 779 = .ok (.iaload, 1) := by decide +kernel
theorem dL_law_780 : decode mL_law.2.1 780 = .ok (.aload_n 0, 1) := by decide +kernel
theorem dL_law_781 : decode mL_law.2.1 781 = .ok (.iload_n 3, 1) := by decide +kernel
theorem dL_law_782 : decode mL_law.2.1 782 = .ok (.iconst 2, 1) := by decide +kernel
theorem dL_law_783 : decode mL_law.2.1 783 = .ok (.iadd, 1) := by decide +kernel
theorem dL_law_784 : decode mL_law.2.1 784 = .ok (.iaload, 1) := by decide +kernel
theorem dL_law_785 : decode mL_law.2.1 785 = .ok (.invokevirtual 115, 3) := by decide +kernel
theorem dL_law_788 : decode mL_law.2.1 788 = .ok (.aload_n 2, 1) := by decide +kernel
theorem dL_law_789 : decode mL_law.2.1 789 = .ok (.aload_n 0, 1) := by decide +kernel
theorem dL_law_790 : decode mL_law.2.1 790 = .ok (.iload_n 3, 1) := by decide +kernel
theorem dL_law_791 : decode mL_law.2.1 791 = .ok (.iconst 1, 1) := by decide +kernel
theorem dL_law_792 : decode mL_law.2.1 792 = .ok (.iadd, 1) := by decide +kernel
theorem dL_law_793 : decode mL_law.2.1 793 = .ok (.iaload, 1) := by decide +kernel
theorem dL_law_794 : decode mL_law.2.1 794 = .ok (.aload_n 0, 1) := by decide +kernel
theorem dL_law_795 : decode mL_law.2.1 795 = .ok (.iload_n 3, 1) := by decide +kernel
theorem dL_law_796 : decode mL_law.2.1 796 = .ok (.iconst 2, 1) := by decide +kernel
theorem dL_law_797 : decode mL_law.2.1 797 = .ok (.iadd, 1) := by decide +kernel
theorem dL_law_798 : decode mL_law.2.1 798 = .ok (.iaload, 1) := by decide +kernel
theorem dL_law_799 : decode mL_law.2.1 799 = .ok (.invokevirtual 118, 3) := by decide +kernel
theorem dL_law_802 : decode mL_law.2.1 802 = .ok (.if_icmp .eq 176, 3) := by decide +kernel
theorem dL_law_805 : decode mL_law.2.1 805 = .ok (.iconst 0, 1) := by decide +kernel
theorem dL_law_806 : decode mL_law.2.1 806 = .ok (.ireturn, 1) := by decide +kernel
theorem dL_law_807 : decode mL_law.2.1 807 = .ok (.aload_n 1, 1) := by decide +kernel
theorem dL_law_808 : decode mL_law.2.1 808 = .ok (.aload_n 0, 1) := by decide +kernel
theorem dL_law_809 : decode mL_law.2.1 809 = .ok (.iload_n 3, 1) := by decide +kernel
theorem dL_law_810 : decode mL_law.2.1 810 = .ok (.iconst 1, 1) := by decide +kernel
theorem dL_law_811 : decode mL_law.2.1 811 = .ok (.iadd, 1) := by decide +kernel
theorem dL_law_812 : decode mL_law.2.1 812 = .ok (.iaload, 1) := by decide +kernel
theorem dL_law_813 : decode mL_law.2.1 813 = .ok (.invokevirtual 119, 3) := by decide +kernel
theorem dL_law_816 : decode mL_law.2.1 816 = .ok (.aload_n 2, 1) := by decide +kernel
theorem dL_law_817 : decode mL_law.2.1 817 = .ok (.aload_n 0, 1) := by decide +kernel
theorem dL_law_818 : decode mL_law.2.1 818 = .ok (.iload_n 3, 1) := by decide +kernel
theorem dL_law_819 : decode mL_law.2.1 819 = .ok (.iconst 1, 1) := by decide +kernel
theorem dL_law_820 : decode mL_law.2.1 820 = .ok (.iadd, 1) := by decide +kernel
theorem dL_law_821 : decode mL_law.2.1 821 = .ok (.iaload, 1) := by decide +kernel
theorem dL_law_822 : decode mL_law.2.1 822 = .ok (.invokevirtual 122, 3) := by decide +kernel
theorem dL_law_825 : decode mL_law.2.1 825 = .ok (.if_icmp .eq 153, 3) := by decide +kernel
theorem dL_law_828 : decode mL_law.2.1 828 = .ok (.iconst 0, 1) := by decide +kernel
theorem dL_law_829 : decode mL_law.2.1 829 = .ok (.ireturn, 1) := by decide +kernel
theorem dL_law_830 : decode mL_law.2.1 830 = .ok (.aload_n 1, 1) := by decide +kernel
theorem dL_law_831 : decode mL_law.2.1 831 = .ok (.aload_n 0, 1) := by decide +kernel
theorem dL_law_832 : decode mL_law.2.1 832 = .ok (.iload_n 3, 1) := by decide +kernel
theorem dL_law_833 : decode mL_law.2.1 833 = .ok (.iconst 1, 1) := by decide +kernel
theorem dL_law_834 : decode mL_law.2.1 834 = .ok (.iadd, 1) := by decide +kernel
theorem dL_law_835 : decode mL_law.2.1 835 = .ok (.iaload, 1) := by decide +kernel
theorem dL_law_836 : decode mL_law.2.1 836 = .ok (.aload_n 0, 1) := by decide +kernel
theorem dL_law_837 : decode mL_law.2.1 837 = .ok (.iload_n 3, 1) := by decide +kernel
theorem dL_law_838 : decode mL_law.2.1 838 = .ok (.iconst 2, 1) := by decide +kernel
theorem dL_law_839 : decode mL_law.2.1 839 = .ok (.iadd, 1) := by decide +kernel
theorem dL_law_840 : decode mL_law.2.1 840 = .ok (.iaload, 1) := by decide +kernel
theorem dL_law_841 : decode mL_law.2.1 841 = .ok (.invokevirtual 123, 3) := by decide +kernel
theorem dL_law_844 : decode mL_law.2.1 844 = .ok (.aload_n 2, 1) := by decide +kernel
theorem dL_law_845 : decode mL_law.2.1 845 = .ok (.aload_n 0, 1) := by decide +kernel
theorem dL_law_846 : decode mL_law.2.1 846 = .ok (.iload_n 3, 1) := by decide +kernel
theorem dL_law_847 : decode mL_law.2.1 847 = .ok (.iconst 1, 1) := by decide +kernel
theorem dL_law_848 : decode mL_law.2.1 848 = .ok (.iadd, 1) := by decide +kernel
theorem dL_law_849 : decode mL_law.2.1 849 = .ok (.iaload, 1) := by decide +kernel
theorem dL_law_850 : decode mL_law.2.1 850 = .ok (.aload_n 0, 1) := by decide +kernel
theorem dL_law_851 : decode mL_law.2.1 851 = .ok (.iload_n 3, 1) := by decide +kernel
theorem dL_law_852 : decode mL_law.2.1 852 = .ok (.iconst 2, 1) := by decide +kernel
theorem dL_law_853 : decode mL_law.2.1 853 = .ok (.iadd, 1) := by decide +kernel
theorem dL_law_854 : decode mL_law.2.1 854 = .ok (.iaload, 1) := by decide +kernel
theorem dL_law_855 : decode mL_law.2.1 855 = .ok (.invokevirtual 126, 3) := by decide +kernel
theorem dL_law_858 : decode mL_law.2.1 858 = .ok (.if_icmp .eq 120, 3) := by decide +kernel
theorem dL_law_861 : decode mL_law.2.1 861 = .ok (.iconst 0, 1) := by decide +kernel
theorem dL_law_862 : decode mL_law.2.1 862 = .ok (.ireturn, 1) := by decide +kernel
theorem dL_law_863 : decode mL_law.2.1 863 = .ok (.aload_n 1, 1) := by decide +kernel
theorem dL_law_864 : decode mL_law.2.1 864 = .ok (.aload_n 0, 1) := by decide +kernel
theorem dL_law_865 : decode mL_law.2.1 865 = .ok (.iload_n 3, 1) := by decide +kernel
theorem dL_law_866 : decode mL_law.2.1 866 = .ok (.iconst 1, 1) := by decide +kernel
theorem dL_law_867 : decode mL_law.2.1 867 = .ok (.iadd, 1) := by decide +kernel
theorem dL_law_868 : decode mL_law.2.1 868 = .ok (.iaload, 1) := by decide +kernel
theorem dL_law_869 : decode mL_law.2.1 869 = .ok (.invokevirtual 127, 3) := by decide +kernel
theorem dL_law_872 : decode mL_law.2.1 872 = .ok (.aload_n 2, 1) := by decide +kernel
theorem dL_law_873 : decode mL_law.2.1 873 = .ok (.aload_n 0, 1) := by decide +kernel
theorem dL_law_874 : decode mL_law.2.1 874 = .ok (.iload_n 3, 1) := by decide +kernel
theorem dL_law_875 : decode mL_law.2.1 875 = .ok (.iconst 1, 1) := by decide +kernel
theorem dL_law_876 : decode mL_law.2.1 876 = .ok (.iadd, 1) := by decide +kernel
theorem dL_law_877 : decode mL_law.2.1 877 = .ok (.iaload, 1) := by decide +kernel
theorem dL_law_878 : decode mL_law.2.1 878 = .ok (.invokevirtual 130, 3) := by decide +kernel
theorem dL_law_881 : decode mL_law.2.1 881 = .ok (.if_icmp .eq 97, 3) := by decide +kernel
theorem dL_law_884 : decode mL_law.2.1 884 = .ok (.iconst 0, 1) := by decide +kernel
theorem dL_law_885 : decode mL_law.2.1 885 = .ok (.ireturn, 1) := by decide +kernel
theorem dL_law_886 : decode mL_law.2.1 886 = .ok (.aload_n 1, 1) := by decide +kernel
theorem dL_law_887 : decode mL_law.2.1 887 = .ok (.aload_n 0, 1) := by decide +kernel
theorem dL_law_888 : decode mL_law.2.1 888 = .ok (.iload_n 3, 1) := by decide +kernel
theorem dL_law_889 : decode mL_law.2.1 889 = .ok (.iconst 1, 1) := by decide +kernel
theorem dL_law_890 : decode mL_law.2.1 890 = .ok (.iadd, 1) := by decide +kernel
theorem dL_law_891 : decode mL_law.2.1 891 = .ok (.iaload, 1) := by decide +kernel
theorem dL_law_892 : decode mL_law.2.1 892 = .ok (.invokevirtual 131, 3) := by decide +kernel
theorem dL_law_895 : decode mL_law.2.1 895 = .ok (.aload_n 2, 1) := by decide +kernel
theorem dL_law_896 : decode mL_law.2.1 896 = .ok (.aload_n 0, 1) := by decide +kernel
theorem dL_law_897 : decode mL_law.2.1 897 = .ok (.iload_n 3, 1) := by decide +kernel
theorem dL_law_898 : decode mL_law.2.1 898 = .ok (.iconst 1, 1) := by decide +kernel
theorem dL_law_899 : decode mL_law.2.1 899 = .ok (.iadd, 1) := by decide +kernel
theorem dL_law_900 : decode mL_law.2.1 900 = .ok (.iaload, 1) := by decide +kernel
theorem dL_law_901 : decode mL_law.2.1 901 = .ok (.invokevirtual 134, 3) := by decide +kernel
theorem dL_law_904 : decode mL_law.2.1 904 = .ok (.if_icmp .eq 74, 3) := by decide +kernel
theorem dL_law_907 : decode mL_law.2.1 907 = .ok (.iconst 0, 1) := by decide +kernel
theorem dL_law_908 : decode mL_law.2.1 908 = .ok (.ireturn, 1) := by decide +kernel
theorem dL_law_909 : decode mL_law.2.1 909 = .ok (.aload_n 1, 1) := by decide +kernel
theorem dL_law_910 : decode mL_law.2.1 910 = .ok (.aload_n 0, 1) := by decide +kernel
theorem dL_law_911 : decode mL_law.2.1 911 = .ok (.iload_n 3, 1) := by decide +kernel
theorem dL_law_912 : decode mL_law.2.1 912 = .ok (.iconst 1, 1) := by decide +kernel
theorem dL_law_913 : decode mL_law.2.1 913 = .ok (.iadd, 1) := by decide +kernel
theorem dL_law_914 : decode mL_law.2.1 914 = .ok (.iaload, 1) := by decide +kernel
theorem dL_law_915 : decode mL_law.2.1 915 = .ok (.invokevirtual 135, 3) := by decide +kernel
theorem dL_law_918 : decode mL_law.2.1 918 = .ok (.aload_n 2, 1) := by decide +kernel
theorem dL_law_919 : decode mL_law.2.1 919 = .ok (.aload_n 0, 1) := by decide +kernel
theorem dL_law_920 : decode mL_law.2.1 920 = .ok (.iload_n 3, 1) := by decide +kernel
theorem dL_law_921 : decode mL_law.2.1 921 = .ok (.iconst 1, 1) := by decide +kernel
theorem dL_law_922 : decode mL_law.2.1 922 = .ok (.iadd, 1) := by decide +kernel
theorem dL_law_923 : decode mL_law.2.1 923 = .ok (.iaload, 1) := by decide +kernel
theorem dL_law_924 : decode mL_law.2.1 924 = .ok (.invokevirtual 138, 3) := by decide +kernel
theorem dL_law_927 : decode mL_law.2.1 927 = .ok (.if_icmp .eq 51, 3) := by decide +kernel
theorem dL_law_930 : decode mL_law.2.1 930 = .ok (.iconst 0, 1) := by decide +kernel
theorem dL_law_931 : decode mL_law.2.1 931 = .ok (.ireturn, 1) := by decide +kernel
theorem dL_law_932 : decode mL_law.2.1 932 = .ok (.aload_n 1, 1) := by decide +kernel
theorem dL_law_933 : decode mL_law.2.1 933 = .ok (.aload_n 0, 1) := by decide +kernel
theorem dL_law_934 : decode mL_law.2.1 934 = .ok (.iload_n 3, 1) := by decide +kernel
theorem dL_law_935 : decode mL_law.2.1 935 = .ok (.iconst 1, 1) := by decide +kernel
theorem dL_law_936 : decode mL_law.2.1 936 = .ok (.iadd, 1) := by decide +kernel
theorem dL_law_937 : decode mL_law.2.1 937 = .ok (.iaload, 1) := by decide +kernel
theorem dL_law_938 : decode mL_law.2.1 938 = .ok (.invokevirtual 139, 3) := by decide +kernel
theorem dL_law_941 : decode mL_law.2.1 941 = .ok (.aload_n 2, 1) := by decide +kernel
theorem dL_law_942 : decode mL_law.2.1 942 = .ok (.aload_n 0, 1) := by decide +kernel
theorem dL_law_943 : decode mL_law.2.1 943 = .ok (.iload_n 3, 1) := by decide +kernel
theorem dL_law_944 : decode mL_law.2.1 944 = .ok (.iconst 1, 1) := by decide +kernel
theorem dL_law_945 : decode mL_law.2.1 945 = .ok (.iadd, 1) := by decide +kernel
theorem dL_law_946 : decode mL_law.2.1 946 = .ok (.iaload, 1) := by decide +kernel
theorem dL_law_947 : decode mL_law.2.1 947 = .ok (.invokevirtual 142, 3) := by decide +kernel
theorem dL_law_950 : decode mL_law.2.1 950 = .ok (.if_icmp .eq 28, 3) := by decide +kernel
theorem dL_law_953 : decode mL_law.2.1 953 = .ok (.iconst 0, 1) := by decide +kernel
theorem dL_law_954 : decode mL_law.2.1 954 = .ok (.ireturn, 1) := by decide +kernel
theorem dL_law_955 : decode mL_law.2.1 955 = .ok (.aload_n 1, 1) := by decide +kernel
theorem dL_law_956 : decode mL_law.2.1 956 = .ok (.aload_n 0, 1) := by decide +kernel
theorem dL_law_957 : decode mL_law.2.1 957 = .ok (.iload_n 3, 1) := by decide +kernel
theorem dL_law_958 : decode mL_law.2.1 958 = .ok (.iconst 1, 1) := by decide +kernel
theorem dL_law_959 : decode mL_law.2.1 959 = .ok (.iadd, 1) := by decide +kernel
theorem dL_law_960 : decode mL_law.2.1 960 = .ok (.iaload, 1) := by decide +kernel
theorem dL_law_961 : decode mL_law.2.1 961 = .ok (.invokevirtual 143, 3) := by decide +kernel
theorem dL_law_964 : decode mL_law.2.1 964 = .ok (.aload_n 2, 1) := by decide +kernel
theorem dL_law_965 : decode mL_law.2.1 965 = .ok (.aload_n 0, 1) := by decide +kernel
theorem dL_law_966 : decode mL_law.2.1 966 = .ok (.iload_n 3, 1) := by decide +kernel
theorem dL_law_967 : decode mL_law.2.1 967 = .ok (.iconst 1, 1) := by decide +kernel
theorem dL_law_968 : decode mL_law.2.1 968 = .ok (.iadd, 1) := by decide +kernel
theorem dL_law_969 : decode mL_law.2.1 969 = .ok (.iaload, 1) := by decide +kernel
theorem dL_law_970 : decode mL_law.2.1 970 = .ok (.invokevirtual 146, 3) := by decide +kernel
theorem dL_law_973 : decode mL_law.2.1 973 = .ok (.if_icmp .eq 5, 3) := by decide +kernel
theorem dL_law_976 : decode mL_law.2.1 976 = .ok (.iconst 0, 1) := by decide +kernel
theorem dL_law_977 : decode mL_law.2.1 977 = .ok (.ireturn, 1) := by decide +kernel
theorem dL_law_978 : decode mL_law.2.1 978 = .ok (.iinc 3 6, 3) := by decide +kernel
theorem dL_law_981 : decode mL_law.2.1 981 = .ok (.goto (-963), 3) := by decide +kernel
theorem dL_law_984 : decode mL_law.2.1 984 = .ok (.iconst 1, 1) := by decide +kernel
theorem dL_law_985 : decode mL_law.2.1 985 = .ok (.ireturn, 1) := by decide +kernel
theorem dX0_boundOf_0 : decode mX0_boundOf.2.1 0 = .ok (.iload_n 1, 1) := by decide +kernel
theorem dX0_boundOf_1 : decode mX0_boundOf.2.1 1 = .ok (.ifCond .gt 7, 3) := by decide +kernel
theorem dX0_boundOf_4 : decode mX0_boundOf.2.1 4 = .ok (.sipush 250, 3) := by decide +kernel
theorem dX0_boundOf_7 : decode mX0_boundOf.2.1 7 = .ok (.ireturn, 1) := by decide +kernel
theorem dX0_boundOf_8 : decode mX0_boundOf.2.1 8 = .ok (.iload_n 0, 1) := by decide +kernel
theorem dX0_boundOf_9 : decode mX0_boundOf.2.1 9 = .ok (.iconst 1, 1) := by decide +kernel
theorem dX0_boundOf_10 : decode mX0_boundOf.2.1 10 = .ok (.iadd, 1) := by decide +kernel
theorem dX0_boundOf_11 : decode mX0_boundOf.2.1 11 = .ok (.iconst 4, 1) := by decide +kernel
theorem dX0_boundOf_12 : decode mX0_boundOf.2.1 12 = .ok (.iload_n 0, 1) := by decide +kernel
theorem dX0_boundOf_13 : decode mX0_boundOf.2.1 13 = .ok (.imul, 1) := by decide +kernel
theorem dX0_boundOf_14 : decode mX0_boundOf.2.1 14 = .ok (.iconst 4, 1) := by decide +kernel
theorem dX0_boundOf_15 : decode mX0_boundOf.2.1 15 = .ok (.iadd, 1) := by decide +kernel
theorem dX0_boundOf_16 : decode mX0_boundOf.2.1 16 = .ok (.invokestatic 81, 3) := by decide +kernel
theorem dX0_boundOf_19 : decode mX0_boundOf.2.1 19 = .ok (.iadd, 1) := by decide +kernel
theorem dX0_boundOf_20 : decode mX0_boundOf.2.1 20 = .ok (.istore_n 2, 1) := by decide +kernel
theorem dX0_boundOf_21 : decode mX0_boundOf.2.1 21 = .ok (.sipush 500, 3) := by decide +kernel
theorem dX0_boundOf_24 : decode mX0_boundOf.2.1 24 = .ok (.sipush 1000, 3) := by decide +kernel
theorem dX0_boundOf_27 : decode mX0_boundOf.2.1 27 = .ok (.iload_n 2, 1) := by decide +kernel
theorem dX0_boundOf_28 : decode mX0_boundOf.2.1 28 = .ok (.imul, 1) := by decide +kernel
theorem dX0_boundOf_29 : decode mX0_boundOf.2.1 29 = .ok (.iload_n 1, 1) := by decide +kernel
theorem dX0_boundOf_30 : decode mX0_boundOf.2.1 30 = .ok (.idiv, 1) := by decide +kernel
theorem dX0_boundOf_31 : decode mX0_boundOf.2.1 31 = .ok (.invokestatic 84, 3) := by decide +kernel
theorem dX0_boundOf_34 : decode mX0_boundOf.2.1 34 = .ok (.ireturn, 1) := by decide +kernel
theorem dX0_compare_0 : decode mX0_compare.2.1 0 = .ok (.aload_n 2, 1) := by decide +kernel
theorem dX0_compare_1 : decode mX0_compare.2.1 1 = .ok (.bipush 7, 2) := by decide +kernel
theorem dX0_compare_3 : decode mX0_compare.2.1 3 = .ok (.invokevirtual 24, 3) := by decide +kernel
theorem dX0_compare_6 : decode mX0_compare.2.1 6 = .ok (.istore_n 3, 1) := by decide +kernel
theorem dX0_compare_7 : decode mX0_compare.2.1 7 = .ok (.aload_n 1, 1) := by decide +kernel
theorem dX0_compare_8 : decode mX0_compare.2.1 8 = .ok (.aload_n 0, 1) := by decide +kernel
theorem dX0_compare_9 : decode mX0_compare.2.1 9 = .ok (.getfield 9, 3) := by decide +kernel
theorem dX0_compare_12 : decode mX0_compare.2.1 12 = .ok (.aload_n 1, 1) := by decide +kernel
theorem dX0_compare_13 : decode mX0_compare.2.1 13 = .ok (.getfield 45, 3) := by decide +kernel
theorem dX0_compare_16 : decode mX0_compare.2.1 16 = .ok (.getfield 61, 3) := by decide +kernel
theorem dX0_compare_19 : decode mX0_compare.2.1 19 = .ok (.iload_n 3, 1) := by decide +kernel
theorem dX0_compare_20 : decode mX0_compare.2.1 20 = .ok (.iadd, 1) := by decide +kernel
theorem dX0_compare_21 : decode mX0_compare.2.1 21 = .ok (.iconst 1, 1) := by decide +kernel
theorem dX0_compare_22 : decode mX0_compare.2.1 22 = .ok (.isub, 1) := by decide +kernel
theorem dX0_compare_23 : decode mX0_compare.2.1 23 = .ok (.invokestatic 89, 3) := by decide +kernel
theorem dX0_compare_26 : decode mX0_compare.2.1 26 = .ok (.iconst 1, 1) := by decide +kernel
theorem dX0_compare_27 : decode mX0_compare.2.1 27 = .ok (.istore 4, 2) := by decide +kernel
theorem dX0_compare_29 : decode mX0_compare.2.1 29 = .ok (.iconst 0, 1) := by decide +kernel
theorem dX0_compare_30 : decode mX0_compare.2.1 30 = .ok (.istore 5, 2) := by decide +kernel
theorem dX0_compare_32 : decode mX0_compare.2.1 32 = .ok (.iload 5, 2) := by decide +kernel
theorem dX0_compare_34 : decode mX0_compare.2.1 34 = .ok (.iload_n 3, 1) := by decide +kernel
theorem dX0_compare_35 : decode mX0_compare.2.1 35 = .ok (.if_icmp .ge 102, 3) := by decide +kernel
theorem dX0_compare_38 : decode mX0_compare.2.1 38 = .ok (.aload_n 1, 1) := by decide +kernel
theorem dX0_compare_39 : decode mX0_compare.2.1 39 = .ok (.getfield 45, 3) := by decide +kernel
theorem dX0_compare_42 : decode mX0_compare.2.1 42 = .ok (.aload_n 1, 1) := by decide +kernel
theorem dX0_compare_43 : decode mX0_compare.2.1 43 = .ok (.getfield 45, 3) := by decide +kernel
theorem dX0_compare_46 : decode mX0_compare.2.1 46 = .ok (.getfield 93, 3) := by decide +kernel
theorem dX0_compare_49 : decode mX0_compare.2.1 49 = .ok (.aload_n 0, 1) := by decide +kernel
theorem dX0_compare_50 : decode mX0_compare.2.1 50 = .ok (.getfield 9, 3) := by decide +kernel
theorem dX0_compare_53 : decode mX0_compare.2.1 53 = .ok (.iload 5, 2) := by decide +kernel
theorem dX0_compare_55 : decode mX0_compare.2.1 55 = .ok (.invokevirtual 96, 3) := by decide +kernel
theorem dX0_compare_58 : decode mX0_compare.2.1 58 = .ok (.istore 6, 2) := by decide +kernel
theorem dX0_compare_60 : decode mX0_compare.2.1 60 = .ok (.iload 4, 2) := by decide +kernel
theorem dX0_compare_62 : decode mX0_compare.2.1 62 = .ok (.ifCond .eq 32, 3) := by decide +kernel
theorem dX0_compare_65 : decode mX0_compare.2.1 65 = .ok (.iload 6, 2) := by decide +kernel
theorem dX0_compare_67 : decode mX0_compare.2.1 67 = .ok (.aload_n 1, 1) := by decide +kernel
theorem dX0_compare_68 : decode mX0_compare.2.1 68 = .ok (.getfield 45, 3) := by decide +kernel
theorem dX0_compare_71 : decode mX0_compare.2.1 71 = .ok (.aload_n 1, 1) := by decide +kernel
theorem dX0_compare_72 : decode mX0_compare.2.1 72 = .ok (.getfield 45, 3) := by decide +kernel
theorem dX0_compare_75 : decode mX0_compare.2.1 75 = .ok (.getfield 100, 3) := by decide +kernel
theorem dX0_compare_78 : decode mX0_compare.2.1 78 = .ok (.aload_n 0, 1) := by decide +kernel
theorem dX0_compare_79 : decode mX0_compare.2.1 79 = .ok (.getfield 9, 3) := by decide +kernel
theorem dX0_compare_82 : decode mX0_compare.2.1 82 = .ok (.iload 5, 2) := by decide +kernel
theorem dX0_compare_84 : decode mX0_compare.2.1 84 = .ok (.invokevirtual 96, 3) := by decide +kernel
theorem dX0_compare_87 : decode mX0_compare.2.1 87 = .ok (.if_icmp .ne 7, 3) := by decide +kernel
theorem dX0_compare_90 : decode mX0_compare.2.1 90 = .ok (.iconst 1, 1) := by decide +kernel
theorem dX0_compare_91 : decode mX0_compare.2.1 91 = .ok (.goto 4, 3) := by decide +kernel
theorem dX0_compare_94 : decode mX0_compare.2.1 94 = .ok (.iconst 0, 1) := by decide +kernel
theorem dX0_compare_95 : decode mX0_compare.2.1 95 = .ok (.istore 4, 2) := by decide +kernel
theorem dX0_compare_97 : decode mX0_compare.2.1 97 = .ok (.aload_n 0, 1) := by decide +kernel
theorem dX0_compare_98 : decode mX0_compare.2.1 98 = .ok (.getfield 9, 3) := by decide +kernel
theorem dX0_compare_101 : decode mX0_compare.2.1 101 = .ok (.iload 5, 2) := by decide +kernel
theorem dX0_compare_103 : decode mX0_compare.2.1 103 = .ok (.aload_n 1, 1) := by decide +kernel
theorem dX0_compare_104 : decode mX0_compare.2.1 104 = .ok (.getfield 45, 3) := by decide +kernel
theorem dX0_compare_107 : decode mX0_compare.2.1 107 = .ok (.getfield 61, 3) := by decide +kernel
theorem dX0_compare_110 : decode mX0_compare.2.1 110 = .ok (.aload_n 0, 1) := by decide +kernel
theorem dX0_compare_111 : decode mX0_compare.2.1 111 = .ok (.getfield 15, 3) := by decide +kernel
theorem dX0_compare_114 : decode mX0_compare.2.1 114 = .ok (.invokestatic 103, 3) := by decide +kernel
theorem dX0_compare_117 : decode mX0_compare.2.1 117 = .ok (.aload_n 1, 1) := by decide +kernel
theorem dX0_compare_118 : decode mX0_compare.2.1 118 = .ok (.getfield 107, 3) := by decide +kernel
theorem dX0_compare_121 : decode mX0_compare.2.1 121 = .ok (.iload 6, 2) := by decide +kernel
theorem dX0_compare_123 : decode mX0_compare.2.1 123 = .ok (.iconst (-1), 1) := by decide +kernel
theorem dX0_compare_124 : decode mX0_compare.2.1 124 = .ok (.aload_n 0, 1) := by decide +kernel
theorem dX0_compare_125 : decode mX0_compare.2.1 125 = .ok (.getfield 15, 3) := by decide +kernel
theorem dX0_compare_128 : decode mX0_compare.2.1 128 = .ok (.invokevirtual 111, 3) := by decide +kernel
theorem dX0_compare_131 : decode mX0_compare.2.1 131 = .ok (.iinc 5 1, 3) := by decide +kernel
theorem dX0_compare_134 : decode mX0_compare.2.1 134 = .ok (.goto (-102), 3) := by decide +kernel
theorem dX0_compare_137 : decode mX0_compare.2.1 137 = .ok (.aload_n 1, 1) := by decide +kernel
theorem dX0_compare_138 : decode mX0_compare.2.1 138 = .ok (.iload 4, 2) := by decide +kernel
theorem dX0_compare_140 : decode mX0_compare.2.1 140 = .ok (.ifCond .eq 7, 3) := by decide +kernel
theorem dX0_compare_143 : decode mX0_compare.2.1 143 = .ok (.iconst 4, 1) := by decide +kernel
theorem dX0_compare_144 : decode mX0_compare.2.1 144 = .ok (.goto 5, 3) := by decide +kernel
theorem dX0_compare_147 : decode mX0_compare.2.1 147 = .ok (.bipush 6, 2) := by decide +kernel
theorem dX0_compare_149 : decode mX0_compare.2.1 149 = .ok (.putfield 55, 3) := by decide +kernel
theorem dX0_compare_152 : decode mX0_compare.2.1 152 = .ok (.return_, 1) := by decide +kernel
theorem dX0_drawFinal_0 : decode mX0_drawFinal.2.1 0 = .ok (.aload_n 1, 1) := by decide +kernel
theorem dX0_drawFinal_1 : decode mX0_drawFinal.2.1 1 = .ok (.getfield 45, 3) := by decide +kernel
theorem dX0_drawFinal_4 : decode mX0_drawFinal.2.1 4 = .ok (.getfield 61, 3) := by decide +kernel
theorem dX0_drawFinal_7 : decode mX0_drawFinal.2.1 7 = .ok (.istore_n 3, 1) := by decide +kernel
theorem dX0_drawFinal_8 : decode mX0_drawFinal.2.1 8 = .ok (.iconst 2, 1) := by decide +kernel
theorem dX0_drawFinal_9 : decode mX0_drawFinal.2.1 9 = .ok (.aload_n 1, 1) := by decide +kernel
theorem dX0_drawFinal_10 : decode mX0_drawFinal.2.1 10 = .ok (.getfield 78, 3) := by decide +kernel
theorem dX0_drawFinal_13 : decode mX0_drawFinal.2.1 13 = .ok (.imul, 1) := by decide +kernel
theorem dX0_drawFinal_14 : decode mX0_drawFinal.2.1 14 = .ok (.iload_n 3, 1) := by decide +kernel
theorem dX0_drawFinal_15 : decode mX0_drawFinal.2.1 15 = .ok (.imul, 1) := by decide +kernel
theorem dX0_drawFinal_16 : decode mX0_drawFinal.2.1 16 = .ok (.sipush 1000, 3) := by decide +kernel
theorem dX0_drawFinal_19 : decode mX0_drawFinal.2.1 19 = .ok (.idiv, 1) := by decide +kernel
theorem dX0_drawFinal_20 : decode mX0_drawFinal.2.1 20 = .ok (.istore 4, 2) := by decide +kernel
theorem dX0_drawFinal_22 : decode mX0_drawFinal.2.1 22 = .ok (.iload_n 3, 1) := by decide +kernel
theorem dX0_drawFinal_23 : decode mX0_drawFinal.2.1 23 = .ok (.aload_n 1, 1) := by decide +kernel
theorem dX0_drawFinal_24 : decode mX0_drawFinal.2.1 24 = .ok (.getfield 107, 3) := by decide +kernel
theorem dX0_drawFinal_27 : decode mX0_drawFinal.2.1 27 = .ok (.getfield 117, 3) := by decide +kernel
theorem dX0_drawFinal_30 : decode mX0_drawFinal.2.1 30 = .ok (.isub, 1) := by decide +kernel
theorem dX0_drawFinal_31 : decode mX0_drawFinal.2.1 31 = .ok (.iload 4, 2) := by decide +kernel
theorem dX0_drawFinal_33 : decode mX0_drawFinal.2.1 33 = .ok (.isub, 1) := by decide +kernel
theorem dX0_drawFinal_34 : decode mX0_drawFinal.2.1 34 = .ok (.aload_n 2, 1) := by decide +kernel
theorem dX0_drawFinal_35 : decode mX0_drawFinal.2.1 35 = .ok (.bipush 8, 2) := by decide +kernel
theorem dX0_drawFinal_37 : decode mX0_drawFinal.2.1 37 = .ok (.invokevirtual 24, 3) := by decide +kernel
theorem dX0_drawFinal_40 : decode mX0_drawFinal.2.1 40 = .ok (.isub, 1) := by decide +kernel
theorem dX0_drawFinal_41 : decode mX0_drawFinal.2.1 41 = .ok (.istore 5, 2) := by decide +kernel
theorem dX0_drawFinal_43 : decode mX0_drawFinal.2.1 43 = .ok (.iload 5, 2) := by decide +kernel
theorem dX0_drawFinal_45 : decode mX0_drawFinal.2.1 45 = .ok (.iconst 1, 1) := by decide +kernel
theorem dX0_drawFinal_46 : decode mX0_drawFinal.2.1 46 = .ok (.if_icmp .ge 10, 3) := by decide +kernel
theorem dX0_drawFinal_49 : decode mX0_drawFinal.2.1 49 = .ok (.aload_n 1, 1) := by decide +kernel
theorem dX0_drawFinal_50 : decode mX0_drawFinal.2.1 50 = .ok (.bipush 6, 2) := by decide +kernel
theorem dX0_drawFinal_52 : decode mX0_drawFinal.2.1 52 = .ok (.putfield 55, 3) := by decide +kernel
theorem dX0_drawFinal_55 : decode mX0_drawFinal.2.1 55 = .ok (.return_, 1) := by decide +kernel
theorem dX0_drawFinal_56 : decode mX0_drawFinal.2.1 56 = .ok (.aload_n 1, 1) := by decide +kernel
theorem dX0_drawFinal_57 : decode mX0_drawFinal.2.1 57 = .ok (.aload_n 1, 1) := by decide +kernel
theorem dX0_drawFinal_58 : decode mX0_drawFinal.2.1 58 = .ok (.getfield 120, 3) := by decide +kernel
theorem dX0_drawFinal_61 : decode mX0_drawFinal.2.1 61 = .ok (.getfield 124, 3) := by decide +kernel
theorem dX0_drawFinal_64 : decode mX0_drawFinal.2.1 64 = .ok (.iload_n 3, 1) := by decide +kernel
theorem dX0_drawFinal_65 : decode mX0_drawFinal.2.1 65 = .ok (.iload 5, 2) := by decide +kernel
theorem dX0_drawFinal_67 : decode mX0_drawFinal.2.1 67 = .ok (.iadd, 1) := by decide +kernel
theorem dX0_drawFinal_68 : decode mX0_drawFinal.2.1 68 = .ok (.iconst 1, 1) := by decide +kernel
theorem dX0_drawFinal_69 : decode mX0_drawFinal.2.1 69 = .ok (.isub, 1) := by decide +kernel
theorem dX0_drawFinal_70 : decode mX0_drawFinal.2.1 70 = .ok (.invokestatic 89, 3) := by decide +kernel
theorem dX0_drawFinal_73 : decode mX0_drawFinal.2.1 73 = .ok (.iconst 0, 1) := by decide +kernel
theorem dX0_drawFinal_74 : decode mX0_drawFinal.2.1 74 = .ok (.istore 6, 2) := by decide +kernel
theorem dX0_drawFinal_76 : decode mX0_drawFinal.2.1 76 = .ok (.iload 6, 2) := by decide +kernel
theorem dX0_drawFinal_78 : decode mX0_drawFinal.2.1 78 = .ok (.iload 5, 2) := by decide +kernel
theorem dX0_drawFinal_80 : decode mX0_drawFinal.2.1 80 = .ok (.if_icmp .ge 75, 3) := by decide +kernel
theorem dX0_drawFinal_83 : decode mX0_drawFinal.2.1 83 = .ok (.aload_n 1, 1) := by decide +kernel
theorem dX0_drawFinal_84 : decode mX0_drawFinal.2.1 84 = .ok (.getfield 120, 3) := by decide +kernel
theorem dX0_drawFinal_87 : decode mX0_drawFinal.2.1 87 = .ok (.getfield 127, 3) := by decide +kernel
theorem dX0_drawFinal_90 : decode mX0_drawFinal.2.1 90 = .ok (.iload 6, 2) := by decide +kernel
theorem dX0_drawFinal_92 : decode mX0_drawFinal.2.1 92 = .ok (.aload_n 1, 1) := by decide +kernel
theorem dX0_drawFinal_93 : decode mX0_drawFinal.2.1 93 = .ok (.getfield 45, 3) := by decide +kernel
theorem dX0_drawFinal_96 : decode mX0_drawFinal.2.1 96 = .ok (.aload_n 1, 1) := by decide +kernel
theorem dX0_drawFinal_97 : decode mX0_drawFinal.2.1 97 = .ok (.getfield 45, 3) := by decide +kernel
theorem dX0_drawFinal_100 : decode mX0_drawFinal.2.1 100 = .ok (.getfield 93, 3) := by decide +kernel
theorem dX0_drawFinal_103 : decode mX0_drawFinal.2.1 103 = .ok (.aload_n 1, 1) := by decide +kernel
theorem dX0_drawFinal_104 : decode mX0_drawFinal.2.1 104 = .ok (.getfield 120, 3) := by decide +kernel
theorem dX0_drawFinal_107 : decode mX0_drawFinal.2.1 107 = .ok (.getfield 124, 3) := by decide +kernel
theorem dX0_drawFinal_110 : decode mX0_drawFinal.2.1 110 = .ok (.iload 6, 2) := by decide +kernel
theorem dX0_drawFinal_112 : decode mX0_drawFinal.2.1 112 = .ok (.invokevirtual 96, 3) := by decide +kernel
theorem dX0_drawFinal_115 : decode mX0_drawFinal.2.1 115 = .ok (.iastore, 1) := by decide +kernel
theorem dX0_drawFinal_116 : decode mX0_drawFinal.2.1 116 = .ok (.aload_n 1, 1) := by decide +kernel
theorem dX0_drawFinal_117 : decode mX0_drawFinal.2.1 117 = .ok (.getfield 120, 3) := by decide +kernel
theorem dX0_drawFinal_120 : decode mX0_drawFinal.2.1 120 = .ok (.getfield 128, 3) := by decide +kernel
theorem dX0_drawFinal_123 : decode mX0_drawFinal.2.1 123 = .ok (.iload 6, 2) := by decide +kernel
theorem dX0_drawFinal_125 : decode mX0_drawFinal.2.1 125 = .ok (.aload_n 1, 1) := by decide +kernel
theorem dX0_drawFinal_126 : decode mX0_drawFinal.2.1 126 = .ok (.getfield 45, 3) := by decide +kernel
theorem dX0_drawFinal_129 : decode mX0_drawFinal.2.1 129 = .ok (.aload_n 1, 1) := by decide +kernel
theorem dX0_drawFinal_130 : decode mX0_drawFinal.2.1 130 = .ok (.getfield 45, 3) := by decide +kernel
theorem dX0_drawFinal_133 : decode mX0_drawFinal.2.1 133 = .ok (.getfield 100, 3) := by decide +kernel
theorem dX0_drawFinal_136 : decode mX0_drawFinal.2.1 136 = .ok (.aload_n 1, 1) := by decide +kernel
theorem dX0_drawFinal_137 : decode mX0_drawFinal.2.1 137 = .ok (.getfield 120, 3) := by decide +kernel
theorem dX0_drawFinal_140 : decode mX0_drawFinal.2.1 140 = .ok (.getfield 124, 3) := by decide +kernel
theorem dX0_drawFinal_143 : decode mX0_drawFinal.2.1 143 = .ok (.iload 6, 2) := by decide +kernel
theorem dX0_drawFinal_145 : decode mX0_drawFinal.2.1 145 = .ok (.invokevirtual 96, 3) := by decide +kernel
theorem dX0_drawFinal_148 : decode mX0_drawFinal.2.1 148 = .ok (.iastore, 1) := by decide +kernel
theorem dX0_drawFinal_149 : decode mX0_drawFinal.2.1 149 = .ok (.iinc 6 1, 3) := by decide +kernel
theorem dX0_drawFinal_152 : decode mX0_drawFinal.2.1 152 = .ok (.goto (-76), 3) := by decide +kernel
theorem dX0_drawFinal_155 : decode mX0_drawFinal.2.1 155 = .ok (.aload_n 1, 1) := by decide +kernel
theorem dX0_drawFinal_156 : decode mX0_drawFinal.2.1 156 = .ok (.getfield 120, 3) := by decide +kernel
theorem dX0_drawFinal_159 : decode mX0_drawFinal.2.1 159 = .ok (.iload 5, 2) := by decide +kernel
theorem dX0_drawFinal_161 : decode mX0_drawFinal.2.1 161 = .ok (.putfield 129, 3) := by decide +kernel
theorem dX0_drawFinal_164 : decode mX0_drawFinal.2.1 164 = .ok (.aload_n 1, 1) := by decide +kernel
theorem dX0_drawFinal_165 : decode mX0_drawFinal.2.1 165 = .ok (.iconst 5, 1) := by decide +kernel
theorem dX0_drawFinal_166 : decode mX0_drawFinal.2.1 166 = .ok (.putfield 55, 3) := by decide +kernel
theorem dX0_drawFinal_169 : decode mX0_drawFinal.2.1 169 = .ok (.return_, 1) := by decide +kernel
theorem dX0_drawRow_0 : decode mX0_drawRow.2.1 0 = .ok (.iconst 0, 1) := by decide +kernel
theorem dX0_drawRow_1 : decode mX0_drawRow.2.1 1 = .ok (.istore_n 3, 1) := by decide +kernel
theorem dX0_drawRow_2 : decode mX0_drawRow.2.1 2 = .ok (.iload_n 3, 1) := by decide +kernel
theorem dX0_drawRow_3 : decode mX0_drawRow.2.1 3 = .ok (.iload_n 2, 1) := by decide +kernel
theorem dX0_drawRow_4 : decode mX0_drawRow.2.1 4 = .ok (.if_icmp .ge 23, 3) := by decide +kernel
theorem dX0_drawRow_7 : decode mX0_drawRow.2.1 7 = .ok (.iload_n 3, 1) := by decide +kernel
theorem dX0_drawRow_8 : decode mX0_drawRow.2.1 8 = .ok (.aload_n 1, 1) := by decide +kernel
theorem dX0_drawRow_9 : decode mX0_drawRow.2.1 9 = .ok (.arraylength, 1) := by decide +kernel
theorem dX0_drawRow_10 : decode mX0_drawRow.2.1 10 = .ok (.if_icmp .ge 17, 3) := by decide +kernel
theorem dX0_drawRow_13 : decode mX0_drawRow.2.1 13 = .ok (.aload_n 1, 1) := by decide +kernel
theorem dX0_drawRow_14 : decode mX0_drawRow.2.1 14 = .ok (.iload_n 3, 1) := by decide +kernel
theorem dX0_drawRow_15 : decode mX0_drawRow.2.1 15 = .ok (.aload_n 0, 1) := by decide +kernel
theorem dX0_drawRow_16 : decode mX0_drawRow.2.1 16 = .ok (.iconst 2, 1) := by decide +kernel
theorem dX0_drawRow_17 : decode mX0_drawRow.2.1 17 = .ok (.invokevirtual 58, 3) := by decide +kernel
theorem dX0_drawRow_20 : decode mX0_drawRow.2.1 20 = .ok (.iastore, 1) := by decide +kernel
theorem dX0_drawRow_21 : decode mX0_drawRow.2.1 21 = .ok (.iinc 3 1, 3) := by decide +kernel
theorem dX0_drawRow_24 : decode mX0_drawRow.2.1 24 = .ok (.goto (-22), 3) := by decide +kernel
theorem dX0_drawRow_27 : decode mX0_drawRow.2.1 27 = .ok (.return_, 1) := by decide +kernel
theorem dX0_drawSignal_0 : decode mX0_drawSignal.2.1 0 = .ok (.aload_n 0, 1) := by decide +kernel
theorem dX0_drawSignal_1 : decode mX0_drawSignal.2.1 1 = .ok (.iconst 2, 1) := by decide +kernel
theorem dX0_drawSignal_2 : decode mX0_drawSignal.2.1 2 = .ok (.invokevirtual 58, 3) := by decide +kernel
theorem dX0_drawSignal_5 : decode mX0_drawSignal.2.1 5 = .ok (.istore_n 3, 1) := by decide +kernel
theorem dX0_drawSignal_6 : decode mX0_drawSignal.2.1 6 = .ok (.aload_n 0, 1) := by decide +kernel
theorem dX0_drawSignal_7 : decode mX0_drawSignal.2.1 7 = .ok (.iconst 2, 1) := by decide +kernel
theorem dX0_drawSignal_8 : decode mX0_drawSignal.2.1 8 = .ok (.invokevirtual 58, 3) := by decide +kernel
theorem dX0_drawSignal_11 : decode mX0_drawSignal.2.1 11 = .ok (.istore 4, 2) := by decide +kernel
theorem dX0_drawSignal_13 : decode mX0_drawSignal.2.1 13 = .ok (.iload_n 3, 1) := by decide +kernel
theorem dX0_drawSignal_14 : decode mX0_drawSignal.2.1 14 = .ok (.istore 5, 2) := by decide +kernel
theorem dX0_drawSignal_16 : decode mX0_drawSignal.2.1 16 = .ok (.iload 4, 2) := by decide +kernel
theorem dX0_drawSignal_18 : decode mX0_drawSignal.2.1 18 = .ok (.istore 6, 2) := by decide +kernel
theorem dX0_drawSignal_20 : decode mX0_drawSignal.2.1 20 = .ok (.aload_n 0, 1) := by decide +kernel
theorem dX0_drawSignal_21 : decode mX0_drawSignal.2.1 21 = .ok (.bipush 100, 2) := by decide +kernel
theorem dX0_drawSignal_23 : decode mX0_drawSignal.2.1 23 = .ok (.invokevirtual 58, 3) := by decide +kernel
theorem dX0_drawSignal_26 : decode mX0_drawSignal.2.1 26 = .ok (.iload_n 1, 1) := by decide +kernel
theorem dX0_drawSignal_27 : decode mX0_drawSignal.2.1 27 = .ok (.if_icmp .ge 7, 3) := by decide +kernel
theorem dX0_drawSignal_30 : decode mX0_drawSignal.2.1 30 = .ok (.iconst 1, 1) := by decide +kernel
theorem dX0_drawSignal_31 : decode mX0_drawSignal.2.1 31 = .ok (.goto 4, 3) := by decide +kernel
theorem dX0_drawSignal_34 : decode mX0_drawSignal.2.1 34 = .ok (.iconst 0, 1) := by decide +kernel
theorem dX0_drawSignal_35 : decode mX0_drawSignal.2.1 35 = .ok (.istore 7, 2) := by decide +kernel
theorem dX0_drawSignal_37 : decode mX0_drawSignal.2.1 37 = .ok (.iload 7, 2) := by decide +kernel
theorem dX0_drawSignal_39 : decode mX0_drawSignal.2.1 39 = .ok (.iconst 1, 1) := by decide +kernel
theorem dX0_drawSignal_40 : decode mX0_drawSignal.2.1 40 = .ok (.if_icmp .ne 24, 3) := by decide +kernel
theorem dX0_drawSignal_43 : decode mX0_drawSignal.2.1 43 = .ok (.aload_n 0, 1) := by decide +kernel
theorem dX0_drawSignal_44 : decode mX0_drawSignal.2.1 44 = .ok (.iconst 2, 1) := by decide +kernel
theorem dX0_drawSignal_45 : decode mX0_drawSignal.2.1 45 = .ok (.invokevirtual 58, 3) := by decide +kernel
theorem dX0_drawSignal_48 : decode mX0_drawSignal.2.1 48 = .ok (.istore 6, 2) := by decide +kernel
theorem dX0_drawSignal_50 : decode mX0_drawSignal.2.1 50 = .ok (.iload 6, 2) := by decide +kernel
theorem dX0_drawSignal_52 : decode mX0_drawSignal.2.1 52 = .ok (.iload 4, 2) := by decide +kernel
theorem dX0_drawSignal_54 : decode mX0_drawSignal.2.1 54 = .ok (.if_icmp .eq 10, 3) := by decide +kernel
theorem dX0_drawSignal_57 : decode mX0_drawSignal.2.1 57 = .ok (.aload_n 0, 1) := by decide +kernel
theorem dX0_drawSignal_58 : decode mX0_drawSignal.2.1 58 = .ok (.iconst 2, 1) := by decide +kernel
theorem dX0_drawSignal_59 : decode mX0_drawSignal.2.1 59 = .ok (.invokevirtual 58, 3) := by decide +kernel
theorem dX0_drawSignal_62 : decode mX0_drawSignal.2.1 62 = .ok (.istore 5, 2) := by decide +kernel
theorem dX0_drawSignal_64 : decode mX0_drawSignal.2.1 64 = .ok (.iload 7, 2) := by decide +kernel
theorem dX0_drawSignal_66 : decode mX0_drawSignal.2.1 66 = .ok (.iconst 1, 1) := by decide +kernel
theorem dX0_drawSignal_67 : decode mX0_drawSignal.2.1 67 = .ok (.if_icmp .ne 14, 3) := by decide +kernel
theorem dX0_drawSignal_70 : decode mX0_drawSignal.2.1 70 = .ok (.iload 6, 2) := by decide +kernel
theorem dX0_drawSignal_72 : decode mX0_drawSignal.2.1 72 = .ok (.iload 4, 2) := by decide +kernel
theorem dX0_drawSignal_74 : decode mX0_drawSignal.2.1 74 = .ok (.if_icmp .ne 7, 3) := by decide +kernel
theorem dX0_drawSignal_77 : decode mX0_drawSignal.2.1 77 = .ok (.iconst 1, 1) := by decide +kernel
theorem dX0_drawSignal_78 : decode mX0_drawSignal.2.1 78 = .ok (.goto 4, 3) := by decide +kernel
theorem dX0_drawSignal_81 : decode mX0_drawSignal.2.1 81 = .ok (.iconst 0, 1) := by decide +kernel
theorem dX0_drawSignal_82 : decode mX0_drawSignal.2.1 82 = .ok (.istore 8, 2) := by decide +kernel
theorem dX0_drawSignal_84 : decode mX0_drawSignal.2.1 84 = .ok (.aload_n 0, 1) := by decide +kernel
theorem dX0_drawSignal_85 : decode mX0_drawSignal.2.1 85 = .ok (.iconst 2, 1) := by decide +kernel
theorem dX0_drawSignal_86 : decode mX0_drawSignal.2.1 86 = .ok (.invokevirtual 58, 3) := by decide +kernel
theorem dX0_drawSignal_89 : decode mX0_drawSignal.2.1 89 = .ok (.istore 9, 2) := by decide +kernel
theorem dX0_drawSignal_91 : decode mX0_drawSignal.2.1 91 = .ok (.iload 9, 2) := by decide +kernel
theorem dX0_drawSignal_93 : decode mX0_drawSignal.2.1 93 = .ok (.iload 6, 2) := by decide +kernel
theorem dX0_drawSignal_95 : decode mX0_drawSignal.2.1 95 = .ok (.if_icmp .ne 8, 3) := by decide +kernel
theorem dX0_drawSignal_98 : decode mX0_drawSignal.2.1 98 = .ok (.iload 5, 2) := by decide +kernel
theorem dX0_drawSignal_100 : decode mX0_drawSignal.2.1 100 = .ok (.goto 8, 3) := by decide +kernel
theorem dX0_drawSignal_103 : decode mX0_drawSignal.2.1 103 = .ok (.aload_n 0, 1) := by decide +kernel
theorem dX0_drawSignal_104 : decode mX0_drawSignal.2.1 104 = .ok (.iconst 2, 1) := by decide +kernel
theorem dX0_drawSignal_105 : decode mX0_drawSignal.2.1 105 = .ok (.invokevirtual 58, 3) := by decide +kernel
theorem dX0_drawSignal_108 : decode mX0_drawSignal.2.1 108 = .ok (.istore 10, 2) := by decide +kernel
theorem dX0_drawSignal_110 : decode mX0_drawSignal.2.1 110 = .ok (.aload_n 0, 1) := by decide +kernel
theorem dX0_drawSignal_111 : decode mX0_drawSignal.2.1 111 = .ok (.sipush 1000, 3) := by decide +kernel
theorem dX0_drawSignal_114 : decode mX0_drawSignal.2.1 114 = .ok (.invokevirtual 58, 3) := by decide +kernel
theorem dX0_drawSignal_117 : decode mX0_drawSignal.2.1 117 = .ok (.iload_n 2, 1) := by decide +kernel
theorem dX0_drawSignal_118 : decode mX0_drawSignal.2.1 118 = .ok (.if_icmp .ge 9, 3) := by decide +kernel
theorem dX0_drawSignal_121 : decode mX0_drawSignal.2.1 121 = .ok (.iload 10, 2) := by decide +kernel
theorem dX0_drawSignal_123 : decode mX0_drawSignal.2.1 123 = .ok (.iconst 1, 1) := by decide +kernel
theorem dX0_drawSignal_124 : decode mX0_drawSignal.2.1 124 = .ok (.ixor, 1) := by decide +kernel
theorem dX0_drawSignal_125 : decode mX0_drawSignal.2.1 125 = .ok (.istore 10, 2) := by decide +kernel
theorem dX0_drawSignal_127 : decode mX0_drawSignal.2.1 127 = .ok (.iload 4, 2) := by decide +kernel
theorem dX0_drawSignal_129 : decode mX0_drawSignal.2.1 129 = .ok (.iload 9, 2) := by decide +kernel
theorem dX0_drawSignal_131 : decode mX0_drawSignal.2.1 131 = .ok (.if_icmp .ne 7, 3) := by decide +kernel
theorem dX0_drawSignal_134 : decode mX0_drawSignal.2.1 134 = .ok (.iconst 1, 1) := by decide +kernel
theorem dX0_drawSignal_135 : decode mX0_drawSignal.2.1 135 = .ok (.goto 4, 3) := by decide +kernel
theorem dX0_drawSignal_138 : decode mX0_drawSignal.2.1 138 = .ok (.iconst 0, 1) := by decide +kernel
theorem dX0_drawSignal_139 : decode mX0_drawSignal.2.1 139 = .ok (.istore 11, 2) := by decide +kernel
theorem dX0_drawSignal_141 : decode mX0_drawSignal.2.1 141 = .ok (.iload_n 3, 1) := by decide +kernel
theorem dX0_drawSignal_142 : decode mX0_drawSignal.2.1 142 = .ok (.iconst 0, 1) := by decide +kernel
theorem dX0_drawSignal_143 : decode mX0_drawSignal.2.1 143 = .ok (.ishl, 1) := by decide +kernel
theorem dX0_drawSignal_144 : decode mX0_drawSignal.2.1 144 = .ok (.iload 4, 2) := by decide +kernel
theorem dX0_drawSignal_146 : decode mX0_drawSignal.2.1 146 = .ok (.iconst 1, 1) := by decide +kernel
theorem dX0_drawSignal_147 : decode mX0_drawSignal.2.1 147 = .ok (.ishl, 1) := by decide +kernel
theorem dX0_drawSignal_148 : decode mX0_drawSignal.2.1 148 = .ok (.ior, 1) := by decide +kernel
theorem dX0_drawSignal_149 : decode mX0_drawSignal.2.1 149 = .ok (.iload 9, 2) := by decide +kernel
theorem dX0_drawSignal_151 : decode mX0_drawSignal.2.1 151 = .ok (.iconst 2, 1) := by decide +kernel
theorem dX0_drawSignal_152 : decode mX0_drawSignal.2.1 152 = .ok (.ishl, 1) := by decide +kernel
theorem dX0_drawSignal_153 : decode mX0_drawSignal.2.1 153 = .ok (.ior, 1) := by decide +kernel
theorem dX0_drawSignal_154 : decode mX0_drawSignal.2.1 154 = .ok (.iload 10, 2) := by decide +kernel
theorem dX0_drawSignal_156 : decode mX0_drawSignal.2.1 156 = .ok (.iconst 3, 1) := by decide +kernel
theorem dX0_drawSignal_157 : decode mX0_drawSignal.2.1 157 = .ok (.ishl, 1) := by decide +kernel
theorem dX0_drawSignal_158 : decode mX0_drawSignal.2.1 158 = .ok (.ior, 1) := by decide +kernel
theorem dX0_drawSignal_159 : decode mX0_drawSignal.2.1 159 = .ok (.iload 7, 2) := by decide +kernel
theorem dX0_drawSignal_161 : decode mX0_drawSignal.2.1 161 = .ok (.iconst 4, 1) := by decide +kernel
theorem dX0_drawSignal_162 : decode mX0_drawSignal.2.1 162 = .ok (.ishl, 1) := by decide +kernel
theorem dX0_drawSignal_163 : decode mX0_drawSignal.2.1 163 = .ok (.ior, 1) := by decide +kernel
theorem dX0_drawSignal_164 : decode mX0_drawSignal.2.1 164 = .ok (.iload 11, 2) := by decide +kernel
theorem dX0_drawSignal_166 : decode mX0_drawSignal.2.1 166 = .ok (.iconst 5, 1) := by decide +kernel
theorem dX0_drawSignal_167 : decode mX0_drawSignal.2.1 167 = .ok (.ishl, 1) := by decide +kernel
theorem dX0_drawSignal_168 : decode mX0_drawSignal.2.1 168 = .ok (.ior, 1) := by decide +kernel
theorem dX0_drawSignal_169 : decode mX0_drawSignal.2.1 169 = .ok (.iload 8, 2) := by decide +kernel
theorem dX0_drawSignal_171 : decode mX0_drawSignal.2.1 171 = .ok (.bipush 6, 2) := by decide +kernel
theorem dX0_drawSignal_173 : decode mX0_drawSignal.2.1 173 = .ok (.ishl, 1) := by decide +kernel
theorem dX0_drawSignal_174 : decode mX0_drawSignal.2.1 174 = .ok (.ior, 1) := by decide +kernel
theorem dX0_drawSignal_175 : decode mX0_drawSignal.2.1 175 = .ok (.ireturn, 1) := by decide +kernel
theorem dX0_drawSignals_0 : decode mX0_drawSignals.2.1 0 = .ok (.aload_n 1, 1) := by decide +kernel
theorem dX0_drawSignals_1 : decode mX0_drawSignals.2.1 1 = .ok (.invokevirtual 19, 3) := by decide +kernel
theorem dX0_drawSignals_4 : decode mX0_drawSignals.2.1 4 = .ok (.aload_n 1, 1) := by decide +kernel
theorem dX0_drawSignals_5 : decode mX0_drawSignals.2.1 5 = .ok (.aload_n 2, 1) := by decide +kernel
theorem dX0_drawSignals_6 : decode mX0_drawSignals.2.1 6 = .ok (.iconst 1, 1) := by decide +kernel
theorem dX0_drawSignals_7 : decode mX0_drawSignals.2.1 7 = .ok (.invokevirtual 24, 3) := by decide +kernel
theorem dX0_drawSignals_10 : decode mX0_drawSignals.2.1 10 = .ok (.putfield 30, 3) := by decide +kernel
theorem dX0_drawSignals_13 : decode mX0_drawSignals.2.1 13 = .ok (.iconst 0, 1) := by decide +kernel
theorem dX0_drawSignals_14 : decode mX0_drawSignals.2.1 14 = .ok (.istore_n 3, 1) := by decide +kernel
theorem dX0_drawSignals_15 : decode mX0_drawSignals.2.1 15 = .ok (.iload_n 3, 1) := by decide +kernel
theorem dX0_drawSignals_16 : decode mX0_drawSignals.2.1 16 = .ok (.aload_n 2, 1) := by decide +kernel
theorem dX0_drawSignals_17 : decode mX0_drawSignals.2.1 17 = .ok (.iconst 0, 1) := by decide +kernel
theorem dX0_drawSignals_18 : decode mX0_drawSignals.2.1 18 = .ok (.invokevirtual 24, 3) := by decide +kernel
theorem dX0_drawSignals_21 : decode mX0_drawSignals.2.1 21 = .ok (.if_icmp .ge 82, 3) := by decide +kernel
theorem dX0_drawSignals_24 : decode mX0_drawSignals.2.1 24 = .ok (.aload_n 1, 1) := by decide +kernel
theorem dX0_drawSignals_25 : decode mX0_drawSignals.2.1 25 = .ok (.aload_n 2, 1) := by decide +kernel
theorem dX0_drawSignals_26 : decode mX0_drawSignals.2.1 26 = .ok (.iconst 3, 1) := by decide +kernel
theorem dX0_drawSignals_27 : decode mX0_drawSignals.2.1 27 = .ok (.invokevirtual 24, 3) := by decide +kernel
theorem dX0_drawSignals_30 : decode mX0_drawSignals.2.1 30 = .ok (.aload_n 2, 1) := by decide +kernel
theorem dX0_drawSignals_31 : decode mX0_drawSignals.2.1 31 = .ok (.iconst 2, 1) := by decide +kernel
theorem dX0_drawSignals_32 : decode mX0_drawSignals.2.1 32 = .ok (.invokevirtual 24, 3) := by decide +kernel
theorem dX0_drawSignals_35 : decode mX0_drawSignals.2.1 35 = .ok (.invokestatic 34, 3) := by decide +kernel
theorem dX0_drawSignals_38 : decode mX0_drawSignals.2.1 38 = .ok (.istore 4, 2) := by decide +kernel
theorem dX0_drawSignals_40 : decode mX0_drawSignals.2.1 40 = .ok (.aload_n 1, 1) := by decide +kernel
theorem dX0_drawSignals_41 : decode mX0_drawSignals.2.1 41 = .ok (.iload 4, 2) := by decide +kernel
theorem dX0_drawSignals_43 : decode mX0_drawSignals.2.1 43 = .ok (.invokevirtual 38, 3) := by decide +kernel
theorem dX0_drawSignals_46 : decode mX0_drawSignals.2.1 46 = .ok (.aload_n 1, 1) := by decide +kernel
theorem dX0_drawSignals_47 : decode mX0_drawSignals.2.1 47 = .ok (.dup, 1) := by decide +kernel
theorem dX0_drawSignals_48 : decode mX0_drawSignals.2.1 48 = .ok (.getfield 42, 3) := by decide +kernel
theorem dX0_drawSignals_51 : decode mX0_drawSignals.2.1 51 = .ok (.iload 4, 2) := by decide +kernel
theorem dX0_drawSignals_53 : decode mX0_drawSignals.2.1 53 = .ok (.iconst 4, 1) := by decide +kernel
theorem dX0_drawSignals_54 : decode mX0_drawSignals.2.1 54 = .ok (.ishr, 1) := by decide +kernel
theorem dX0_drawSignals_55 : decode mX0_drawSignals.2.1 55 = .ok (.iconst 1, 1) := by decide +kernel
theorem dX0_drawSignals_56 : decode mX0_drawSignals.2.1 56 = .ok (.iand, 1) := by decide +kernel
theorem dX0_drawSignals_57 : decode mX0_drawSignals.2.1 57 = .ok (.iadd, 1) := by decide +kernel
theorem dX0_drawSignals_58 : decode mX0_drawSignals.2.1 58 = .ok (.putfield 42, 3) := by decide +kernel
theorem dX0_drawSignals_61 : decode mX0_drawSignals.2.1 61 = .ok (.iload 4, 2) := by decide +kernel
theorem dX0_drawSignals_63 : decode mX0_drawSignals.2.1 63 = .ok (.iconst 5, 1) := by decide +kernel
theorem dX0_drawSignals_64 : decode mX0_drawSignals.2.1 64 = .ok (.ishr, 1) := by decide +kernel
theorem dX0_drawSignals_65 : decode mX0_drawSignals.2.1 65 = .ok (.iconst 1, 1) := by decide +kernel
theorem dX0_drawSignals_66 : decode mX0_drawSignals.2.1 66 = .ok (.iand, 1) := by decide +kernel
theorem dX0_drawSignals_67 : decode mX0_drawSignals.2.1 67 = .ok (.iconst 1, 1) := by decide +kernel
theorem dX0_drawSignals_68 : decode mX0_drawSignals.2.1 68 = .ok (.if_icmp .ne 29, 3) := by decide +kernel
theorem dX0_drawSignals_71 : decode mX0_drawSignals.2.1 71 = .ok (.aload_n 1, 1) := by decide +kernel
theorem dX0_drawSignals_72 : decode mX0_drawSignals.2.1 72 = .ok (.getfield 45, 3) := by decide +kernel
theorem dX0_drawSignals_75 : decode mX0_drawSignals.2.1 75 = .ok (.iload 4, 2) := by decide +kernel
theorem dX0_drawSignals_77 : decode mX0_drawSignals.2.1 77 = .ok (.iconst 0, 1) := by decide +kernel
theorem dX0_drawSignals_78 : decode mX0_drawSignals.2.1 78 = .ok (.ishr, 1) := by decide +kernel
theorem dX0_drawSignals_79 : decode mX0_drawSignals.2.1 79 = .ok (.iconst 1, 1) := by decide +kernel
theorem dX0_drawSignals_80 : decode mX0_drawSignals.2.1 80 = .ok (.iand, 1) := by decide +kernel
theorem dX0_drawSignals_81 : decode mX0_drawSignals.2.1 81 = .ok (.iload 4, 2) := by decide +kernel
theorem dX0_drawSignals_83 : decode mX0_drawSignals.2.1 83 = .ok (.iconst 3, 1) := by decide +kernel
theorem dX0_drawSignals_84 : decode mX0_drawSignals.2.1 84 = .ok (.ishr, 1) := by decide +kernel
theorem dX0_drawSignals_85 : decode mX0_drawSignals.2.1 85 = .ok (.iconst 1, 1) := by decide +kernel
theorem dX0_drawSignals_86 : decode mX0_drawSignals.2.1 86 = .ok (.iand, 1) := by decide +kernel
theorem dX0_drawSignals_87 : decode mX0_drawSignals.2.1 87 = .ok (.iload 4, 2) := by decide +kernel
theorem dX0_drawSignals_89 : decode mX0_drawSignals.2.1 89 = .ok (.bipush 6, 2) := by decide +kernel
theorem dX0_drawSignals_91 : decode mX0_drawSignals.2.1 91 = .ok (.ishr, 1) := by decide +kernel
theorem dX0_drawSignals_92 : decode mX0_drawSignals.2.1 92 = .ok (.iconst 1, 1) := by decide +kernel
theorem dX0_drawSignals_93 : decode mX0_drawSignals.2.1 93 = .ok (.iand, 1) := by decide +kernel
theorem dX0_drawSignals_94 : decode mX0_drawSignals.2.1 94 = .ok (.invokevirtual 49, 3) := by decide +kernel
theorem dX0_drawSignals_97 : decode mX0_drawSignals.2.1 97 = .ok (.iinc 3 1, 3) := by decide +kernel
theorem dX0_drawSignals_100 : decode mX0_drawSignals.2.1 100 = .ok (.goto (-85), 3) := by decide +kernel
theorem dX0_drawSignals_103 : decode mX0_drawSignals.2.1 103 = .ok (.aload_n 1, 1) := by decide +kernel
theorem dX0_drawSignals_104 : decode mX0_drawSignals.2.1 104 = .ok (.iconst 1, 1) := by decide +kernel
theorem dX0_drawSignals_105 : decode mX0_drawSignals.2.1 105 = .ok (.putfield 55, 3) := by decide +kernel
theorem dX0_drawSignals_108 : decode mX0_drawSignals.2.1 108 = .ok (.return_, 1) := by decide +kernel
theorem dX0_init_0 : decode mX0_init.2.1 0 = .ok (.aload_n 0, 1) := by decide +kernel
theorem dX0_init_1 : decode mX0_init.2.1 1 = .ok (.invokespecial 3, 3) := by decide +kernel
theorem dX0_init_4 : decode mX0_init.2.1 4 = .ok (.aload_n 0, 1) := by decide +kernel
theorem dX0_init_5 : decode mX0_init.2.1 5 = .ok (.sipush 512, 3) := by decide +kernel
theorem dX0_init_8 : decode mX0_init.2.1 8 = .ok (.newarray .int, 2) := by decide +kernel
theorem dX0_init_10 : decode mX0_init.2.1 10 = .ok (.putfield 9, 3) := by decide +kernel
theorem dX0_init_13 : decode mX0_init.2.1 13 = .ok (.aload_n 0, 1) := by decide +kernel
theorem dX0_init_14 : decode mX0_init.2.1 14 = .ok (.iconst 4, 1) := by decide +kernel
theorem dX0_init_15 : decode mX0_init.2.1 15 = .ok (.newarray .long, 2) := by decide +kernel
theorem dX0_init_17 : decode mX0_init.2.1 17 = .ok (.putfield 15, 3) := by decide +kernel
theorem dX0_init_20 : decode mX0_init.2.1 20 = .ok (.return_, 1) := by decide +kernel
theorem dX0_rootOf_0 : decode mX0_rootOf.2.1 0 = .ok (.iconst 0, 1) := by decide +kernel
theorem dX0_rootOf_1 : decode mX0_rootOf.2.1 1 = .ok (.istore_n 1, 1) := by decide +kernel
theorem dX0_rootOf_2 : decode mX0_rootOf.2.1 2 = .ok (.iconst 1, 1) := by decide +kernel
theorem dX0_rootOf_3 : decode mX0_rootOf.2.1 3 = .ok (.istore_n 2, 1) := by decide +kernel
theorem dX0_rootOf_4 : decode mX0_rootOf.2.1 4 = .ok (.iload_n 2, 1) := by decide +kernel
theorem dX0_rootOf_5 : decode mX0_rootOf.2.1 5 = .ok (.sipush 1000, 3) := by decide +kernel
theorem dX0_rootOf_8 : decode mX0_rootOf.2.1 8 = .ok (.if_icmp .gt 18, 3) := by decide +kernel
theorem dX0_rootOf_11 : decode mX0_rootOf.2.1 11 = .ok (.iload_n 2, 1) := by decide +kernel
theorem dX0_rootOf_12 : decode mX0_rootOf.2.1 12 = .ok (.iload_n 2, 1) := by decide +kernel
theorem dX0_rootOf_13 : decode mX0_rootOf.2.1 13 = .ok (.imul, 1) := by decide +kernel
theorem dX0_rootOf_14 : decode mX0_rootOf.2.1 14 = .ok (.iload_n 0, 1) := by decide +kernel
theorem dX0_rootOf_15 : decode mX0_rootOf.2.1 15 = .ok (.if_icmp .gt 11, 3) := by decide +kernel
theorem dX0_rootOf_18 : decode mX0_rootOf.2.1 18 = .ok (.iload_n 2, 1) := by decide +kernel
theorem dX0_rootOf_19 : decode mX0_rootOf.2.1 19 = .ok (.istore_n 1, 1) := by decide +kernel
theorem dX0_rootOf_20 : decode mX0_rootOf.2.1 20 = .ok (.iinc 2 1, 3) := by decide +kernel
theorem dX0_rootOf_23 : decode mX0_rootOf.2.1 23 = .ok (.goto (-19), 3) := by decide +kernel
theorem dX0_rootOf_26 : decode mX0_rootOf.2.1 26 = .ok (.iload_n 1, 1) := by decide +kernel
theorem dX0_rootOf_27 : decode mX0_rootOf.2.1 27 = .ok (.ireturn, 1) := by decide +kernel
theorem dX0_setOfRow_0 : decode mX0_setOfRow.2.1 0 = .ok (.aload_n 3, 1) := by decide +kernel
theorem dX0_setOfRow_1 : decode mX0_setOfRow.2.1 1 = .ok (.lconst 0, 1) := by decide +kernel
theorem dX0_setOfRow_2 : decode mX0_setOfRow.2.1 2 = .ok (.invokestatic 132, 3) := by decide +kernel
theorem dX0_setOfRow_5 : decode mX0_setOfRow.2.1 5 = .ok (.iconst 0, 1) := by decide +kernel
theorem dX0_setOfRow_6 : decode mX0_setOfRow.2.1 6 = .ok (.istore 4, 2) := by decide +kernel
theorem dX0_setOfRow_8 : decode mX0_setOfRow.2.1 8 = .ok (.iload 4, 2) := by decide +kernel
theorem dX0_setOfRow_10 : decode mX0_setOfRow.2.1 10 = .ok (.iload_n 2, 1) := by decide +kernel
theorem dX0_setOfRow_11 : decode mX0_setOfRow.2.1 11 = .ok (.if_icmp .ge 41, 3) := by decide +kernel
theorem dX0_setOfRow_14 : decode mX0_setOfRow.2.1 14 = .ok (.iload_n 1, 1) := by decide +kernel
theorem dX0_setOfRow_15 : decode mX0_setOfRow.2.1 15 = .ok (.iload 4, 2) := by decide +kernel
theorem dX0_setOfRow_17 : decode mX0_setOfRow.2.1 17 = .ok (.iadd, 1) := by decide +kernel
theorem dX0_setOfRow_18 : decode mX0_setOfRow.2.1 18 = .ok (.aload_n 0, 1) := by decide +kernel
theorem dX0_setOfRow_19 : decode mX0_setOfRow.2.1 19 = .ok (.arraylength, 1) := by decide +kernel
theorem dX0_setOfRow_20 : decode mX0_setOfRow.2.1 20 = .ok (.if_icmp .ge 32, 3) := by decide +kernel
theorem dX0_setOfRow_23 : decode mX0_setOfRow.2.1 23 = .ok (.aload_n 3, 1) := by decide +kernel
theorem dX0_setOfRow_24 : decode mX0_setOfRow.2.1 24 = .ok (.iload 4, 2) := by decide +kernel
theorem dX0_setOfRow_26 : decode mX0_setOfRow.2.1 26 = .ok (.bipush 6, 2) := by decide +kernel
theorem dX0_setOfRow_28 : decode mX0_setOfRow.2.1 28 = .ok (.ishr, 1) := by decide +kernel
theorem dX0_setOfRow_29 : decode mX0_setOfRow.2.1 29 = .ok (.dup2, 1) := by decide +kernel
theorem dX0_setOfRow_30 : decode mX0_setOfRow.2.1 30 = .ok (.laload, 1) := by decide +kernel
theorem dX0_setOfRow_31 : decode mX0_setOfRow.2.1 31 = .ok (.aload_n 0, 1) := by decide +kernel
theorem dX0_setOfRow_32 : decode mX0_setOfRow.2.1 32 = .ok (.iload_n 1, 1) := by decide +kernel
theorem dX0_setOfRow_33 : decode mX0_setOfRow.2.1 33 = .ok (.iload 4, 2) := by decide +kernel
theorem dX0_setOfRow_35 : decode mX0_setOfRow.2.1 35 = .ok (.iadd, 1) := by decide +kernel
theorem dX0_setOfRow_36 : decode mX0_setOfRow.2.1 36 = .ok (.iaload, 1) := by decide +kernel
theorem dX0_setOfRow_37 : decode mX0_setOfRow.2.1 37 = .ok (.i2l, 1) := by decide +kernel
theorem dX0_setOfRow_38 : decode mX0_setOfRow.2.1 38 = .ok (.iload 4, 2) := by decide +kernel
theorem dX0_setOfRow_40 : decode mX0_setOfRow.2.1 40 = .ok (.bipush 63, 2) := by decide +kernel
theorem dX0_setOfRow_42 : decode mX0_setOfRow.2.1 42 = .ok (.iand, 1) := by decide +kernel
theorem dX0_setOfRow_43 : decode mX0_setOfRow.2.1 43 = .ok (.lshl, 1) := by decide +kernel
theorem dX0_setOfRow_44 : decode mX0_setOfRow.2.1 44 = .ok (.lor, 1) := by decide +kernel
theorem dX0_setOfRow_45 : decode mX0_setOfRow.2.1 45 = .ok (.lastore, 1) := by decide +kernel
theorem dX0_setOfRow_46 : decode mX0_setOfRow.2.1 46 = .ok (.iinc 4 1, 3) := by decide +kernel
theorem dX0_setOfRow_49 : decode mX0_setOfRow.2.1 49 = .ok (.goto (-41), 3) := by decide +kernel
theorem dX0_setOfRow_52 : decode mX0_setOfRow.2.1 52 = .ok (.return_, 1) := by decide +kernel
theorem dX0_tellSample_0 : decode mX0_tellSample.2.1 0 = .ok (.iconst 0, 1) := by decide +kernel
theorem dX0_tellSample_1 : decode mX0_tellSample.2.1 1 = .ok (.istore_n 3, 1) := by decide +kernel
theorem dX0_tellSample_2 : decode mX0_tellSample.2.1 2 = .ok (.iconst 0, 1) := by decide +kernel
theorem dX0_tellSample_3 : decode mX0_tellSample.2.1 3 = .ok (.istore 4, 2) := by decide +kernel
theorem dX0_tellSample_5 : decode mX0_tellSample.2.1 5 = .ok (.iload 4, 2) := by decide +kernel
theorem dX0_tellSample_7 : decode mX0_tellSample.2.1 7 = .ok (.aload_n 2, 1) := by decide +kernel
theorem dX0_tellSample_8 : decode mX0_tellSample.2.1 8 = .ok (.iconst 4, 1) := by decide +kernel
theorem dX0_tellSample_9 : decode mX0_tellSample.2.1 9 = .ok (.invokevirtual 24, 3) := by decide +kernel
theorem dX0_tellSample_12 : decode mX0_tellSample.2.1 12 = .ok (.if_icmp .ge 71, 3) := by decide +kernel
theorem dX0_tellSample_15 : decode mX0_tellSample.2.1 15 = .ok (.aload_n 1, 1) := by decide +kernel
theorem dX0_tellSample_16 : decode mX0_tellSample.2.1 16 = .ok (.getfield 45, 3) := by decide +kernel
theorem dX0_tellSample_19 : decode mX0_tellSample.2.1 19 = .ok (.getfield 61, 3) := by decide +kernel
theorem dX0_tellSample_22 : decode mX0_tellSample.2.1 22 = .ok (.iconst 1, 1) := by decide +kernel
theorem dX0_tellSample_23 : decode mX0_tellSample.2.1 23 = .ok (.if_icmp .le 60, 3) := by decide +kernel
theorem dX0_tellSample_26 : decode mX0_tellSample.2.1 26 = .ok (.aload_n 1, 1) := by decide +kernel
theorem dX0_tellSample_27 : decode mX0_tellSample.2.1 27 = .ok (.aload_n 1, 1) := by decide +kernel
theorem dX0_tellSample_28 : decode mX0_tellSample.2.1 28 = .ok (.getfield 45, 3) := by decide +kernel
theorem dX0_tellSample_31 : decode mX0_tellSample.2.1 31 = .ok (.getfield 61, 3) := by decide +kernel
theorem dX0_tellSample_34 : decode mX0_tellSample.2.1 34 = .ok (.invokevirtual 58, 3) := by decide +kernel
theorem dX0_tellSample_37 : decode mX0_tellSample.2.1 37 = .ok (.istore 5, 2) := by decide +kernel
theorem dX0_tellSample_39 : decode mX0_tellSample.2.1 39 = .ok (.aload_n 1, 1) := by decide +kernel
theorem dX0_tellSample_40 : decode mX0_tellSample.2.1 40 = .ok (.dup, 1) := by decide +kernel
theorem dX0_tellSample_41 : decode mX0_tellSample.2.1 41 = .ok (.getfield 64, 3) := by decide +kernel
theorem dX0_tellSample_44 : decode mX0_tellSample.2.1 44 = .ok (.aload_n 1, 1) := by decide +kernel
theorem dX0_tellSample_45 : decode mX0_tellSample.2.1 45 = .ok (.getfield 45, 3) := by decide +kernel
theorem dX0_tellSample_48 : decode mX0_tellSample.2.1 48 = .ok (.iload 5, 2) := by decide +kernel
theorem dX0_tellSample_50 : decode mX0_tellSample.2.1 50 = .ok (.invokevirtual 67, 3) := by decide +kernel
theorem dX0_tellSample_53 : decode mX0_tellSample.2.1 53 = .ok (.ifCond .eq 7, 3) := by decide +kernel
theorem dX0_tellSample_56 : decode mX0_tellSample.2.1 56 = .ok (.iconst 1, 1) := by decide +kernel
theorem dX0_tellSample_57 : decode mX0_tellSample.2.1 57 = .ok (.goto 4, 3) := by decide +kernel
theorem dX0_tellSample_60 : decode mX0_tellSample.2.1 60 = .ok (.iconst 0, 1) := by decide +kernel
theorem dX0_tellSample_61 : decode mX0_tellSample.2.1 61 = .ok (.iadd, 1) := by decide +kernel
theorem dX0_tellSample_62 : decode mX0_tellSample.2.1 62 = .ok (.putfield 64, 3) := by decide +kernel
theorem dX0_tellSample_65 : decode mX0_tellSample.2.1 65 = .ok (.aload_n 1, 1) := by decide +kernel
theorem dX0_tellSample_66 : decode mX0_tellSample.2.1 66 = .ok (.getfield 45, 3) := by decide +kernel
theorem dX0_tellSample_69 : decode mX0_tellSample.2.1 69 = .ok (.iload 5, 2) := by decide +kernel
theorem dX0_tellSample_71 : decode mX0_tellSample.2.1 71 = .ok (.invokevirtual 71, 3) := by decide +kernel
theorem dX0_tellSample_74 : decode mX0_tellSample.2.1 74 = .ok (.iinc 3 1, 3) := by decide +kernel
theorem dX0_tellSample_77 : decode mX0_tellSample.2.1 77 = .ok (.iinc 4 1, 3) := by decide +kernel
theorem dX0_tellSample_80 : decode mX0_tellSample.2.1 80 = .ok (.goto (-75), 3) := by decide +kernel
theorem dX0_tellSample_83 : decode mX0_tellSample.2.1 83 = .ok (.aload_n 1, 1) := by decide +kernel
theorem dX0_tellSample_84 : decode mX0_tellSample.2.1 84 = .ok (.aload_n 1, 1) := by decide +kernel
theorem dX0_tellSample_85 : decode mX0_tellSample.2.1 85 = .ok (.getfield 64, 3) := by decide +kernel
theorem dX0_tellSample_88 : decode mX0_tellSample.2.1 88 = .ok (.iload_n 3, 1) := by decide +kernel
theorem dX0_tellSample_89 : decode mX0_tellSample.2.1 89 = .ok (.invokestatic 74, 3) := by decide +kernel
theorem dX0_tellSample_92 : decode mX0_tellSample.2.1 92 = .ok (.putfield 78, 3) := by decide +kernel
theorem dX0_tellSample_95 : decode mX0_tellSample.2.1 95 = .ok (.aload_n 1, 1) := by decide +kernel
theorem dX0_tellSample_96 : decode mX0_tellSample.2.1 96 = .ok (.iconst 2, 1) := by decide +kernel
theorem dX0_tellSample_97 : decode mX0_tellSample.2.1 97 = .ok (.putfield 55, 3) := by decide +kernel
theorem dX0_tellSample_100 : decode mX0_tellSample.2.1 100 = .ok (.return_, 1) := by decide +kernel
theorem dX10_bestBlock_0 : decode mX10_bestBlock.2.1 0 = .ok (.bipush (-2), 2) := by decide +kernel
theorem dX10_bestBlock_2 : decode mX10_bestBlock.2.1 2 = .ok (.istore 4, 2) := by decide +kernel
theorem dX10_bestBlock_4 : decode mX10_bestBlock.2.1 4 = .ok (.bipush (-2), 2) := by decide +kernel
theorem dX10_bestBlock_6 : decode mX10_bestBlock.2.1 6 = .ok (.istore 5, 2) := by decide +kernel
theorem dX10_bestBlock_8 : decode mX10_bestBlock.2.1 8 = .ok (.aload_n 0, 1) := by decide +kernel
theorem dX10_bestBlock_9 : decode mX10_bestBlock.2.1 9 = .ok (.getfield 21, 3) := by decide +kernel
theorem dX10_bestBlock_12 : decode mX10_bestBlock.2.1 12 = .ok (.aload_n 2, 1) := by decide +kernel
theorem dX10_bestBlock_13 : decode mX10_bestBlock.2.1 13 = .ok (.invokevirtual 43, 3) := by decide +kernel
theorem dX10_bestBlock_16 : decode mX10_bestBlock.2.1 16 = .ok (.getstatic 81, 3) := by decide +kernel
theorem dX10_bestBlock_19 : decode mX10_bestBlock.2.1 19 = .ok (.iconst 5, 1) := by decide +kernel
theorem dX10_bestBlock_20 : decode mX10_bestBlock.2.1 20 = .ok (.iaload, 1) := by decide +kernel
theorem dX10_bestBlock_21 : decode mX10_bestBlock.2.1 21 = .ok (.istore 6, 2) := by decide +kernel
theorem dX10_bestBlock_23 : decode mX10_bestBlock.2.1 23 = .ok (.iload 6, 2) := by decide +kernel
theorem dX10_bestBlock_25 : decode mX10_bestBlock.2.1 25 = .ok (.getstatic 85, 3) := by decide +kernel
theorem dX10_bestBlock_28 : decode mX10_bestBlock.2.1 28 = .ok (.iconst 5, 1) := by decide +kernel
theorem dX10_bestBlock_29 : decode mX10_bestBlock.2.1 29 = .ok (.iaload, 1) := by decide +kernel
theorem dX10_bestBlock_30 : decode mX10_bestBlock.2.1 30 = .ok (.if_icmp .gt 96, 3) := by decide +kernel
theorem dX10_bestBlock_33 : decode mX10_bestBlock.2.1 33 = .ok (.aload_n 0, 1) := by decide +kernel
theorem dX10_bestBlock_34 : decode mX10_bestBlock.2.1 34 = .ok (.getfield 12, 3) := by decide +kernel
theorem dX10_bestBlock_37 : decode mX10_bestBlock.2.1 37 = .ok (.aload_n 1, 1) := by decide +kernel
theorem dX10_bestBlock_38 : decode mX10_bestBlock.2.1 38 = .ok (.invokevirtual 39, 3) := by decide +kernel
theorem dX10_bestBlock_41 : decode mX10_bestBlock.2.1 41 = .ok (.aload_n 0, 1) := by decide +kernel
theorem dX10_bestBlock_42 : decode mX10_bestBlock.2.1 42 = .ok (.getfield 21, 3) := by decide +kernel
theorem dX10_bestBlock_45 : decode mX10_bestBlock.2.1 45 = .ok (.iconst 5, 1) := by decide +kernel
theorem dX10_bestBlock_46 : decode mX10_bestBlock.2.1 46 = .ok (.iload 6, 2) := by decide +kernel
theorem dX10_bestBlock_48 : decode mX10_bestBlock.2.1 48 = .ok (.invokevirtual 88, 3) := by decide +kernel
theorem dX10_bestBlock_51 : decode mX10_bestBlock.2.1 51 = .ok (.aload_n 0, 1) := by decide +kernel
theorem dX10_bestBlock_52 : decode mX10_bestBlock.2.1 52 = .ok (.bipush 6, 2) := by decide +kernel
theorem dX10_bestBlock_54 : decode mX10_bestBlock.2.1 54 = .ok (.invokevirtual 46, 3) := by decide +kernel
theorem dX10_bestBlock_57 : decode mX10_bestBlock.2.1 57 = .ok (.iload 4, 2) := by decide +kernel
theorem dX10_bestBlock_59 : decode mX10_bestBlock.2.1 59 = .ok (.bipush (-2), 2) := by decide +kernel
theorem dX10_bestBlock_61 : decode mX10_bestBlock.2.1 61 = .ok (.if_icmp .eq 18, 3) := by decide +kernel
theorem dX10_bestBlock_64 : decode mX10_bestBlock.2.1 64 = .ok (.aload_n 0, 1) := by decide +kernel
theorem dX10_bestBlock_65 : decode mX10_bestBlock.2.1 65 = .ok (.getfield 12, 3) := by decide +kernel
theorem dX10_bestBlock_68 : decode mX10_bestBlock.2.1 68 = .ok (.getfield 72, 3) := by decide +kernel
theorem dX10_bestBlock_71 : decode mX10_bestBlock.2.1 71 = .ok (.getfield 76, 3) := by decide +kernel
theorem dX10_bestBlock_74 : decode mX10_bestBlock.2.1 74 = .ok (.iload 5, 2) := by decide +kernel
theorem dX10_bestBlock_76 : decode mX10_bestBlock.2.1 76 = .ok (.if_icmp .ge 7, 3) := by decide +kernel
theorem dX10_bestBlock_79 : decode mX10_bestBlock.2.1 79 = .ok (.iconst 1, 1) := by decide +kernel
theorem dX10_bestBlock_80 : decode mX10_bestBlock.2.1 80 = .ok (.goto 4, 3) := by decide +kernel
theorem dX10_bestBlock_83 : decode mX10_bestBlock.2.1 83 = .ok (.iconst 0, 1) := by decide +kernel
theorem dX10_bestBlock_84 : decode mX10_bestBlock.2.1 84 = .ok (.istore 7, 2) := by decide +kernel
theorem dX10_bestBlock_86 : decode mX10_bestBlock.2.1 86 = .ok (.iload 7, 2) := by decide +kernel
theorem dX10_bestBlock_88 : decode mX10_bestBlock.2.1 88 = .ok (.ifCond .eq 32, 3) := by decide +kernel
theorem dX10_bestBlock_91 : decode mX10_bestBlock.2.1 91 = .ok (.aload_n 0, 1) := by decide +kernel
theorem dX10_bestBlock_92 : decode mX10_bestBlock.2.1 92 = .ok (.getfield 12, 3) := by decide +kernel
theorem dX10_bestBlock_95 : decode mX10_bestBlock.2.1 95 = .ok (.getfield 62, 3) := by decide +kernel
theorem dX10_bestBlock_98 : decode mX10_bestBlock.2.1 98 = .ok (.invokevirtual 66, 3) := by decide +kernel
theorem dX10_bestBlock_101 : decode mX10_bestBlock.2.1 101 = .ok (.ifCond .ne 19, 3) := by decide +kernel
theorem dX10_bestBlock_104 : decode mX10_bestBlock.2.1 104 = .ok (.iload 6, 2) := by decide +kernel
theorem dX10_bestBlock_106 : decode mX10_bestBlock.2.1 106 = .ok (.istore 4, 2) := by decide +kernel
theorem dX10_bestBlock_108 : decode mX10_bestBlock.2.1 108 = .ok (.aload_n 0, 1) := by decide +kernel
theorem dX10_bestBlock_109 : decode mX10_bestBlock.2.1 109 = .ok (.getfield 12, 3) := by decide +kernel
theorem dX10_bestBlock_112 : decode mX10_bestBlock.2.1 112 = .ok (.getfield 72, 3) := by decide +kernel
theorem dX10_bestBlock_115 : decode mX10_bestBlock.2.1 115 = .ok (.getfield 76, 3) := by decide +kernel
theorem dX10_bestBlock_118 : decode mX10_bestBlock.2.1 118 = .ok (.istore 5, 2) := by decide +kernel
theorem dX10_bestBlock_120 : decode mX10_bestBlock.2.1 120 = .ok (.iinc 6 1, 3) := by decide +kernel
theorem dX10_bestBlock_123 : decode mX10_bestBlock.2.1 123 = .ok (.goto (-100), 3) := by decide +kernel
theorem dX10_bestBlock_126 : decode mX10_bestBlock.2.1 126 = .ok (.iload_n 3, 1) := by decide +kernel
theorem dX10_bestBlock_127 : decode mX10_bestBlock.2.1 127 = .ok (.ifCond .ne 8, 3) := by decide +kernel
theorem dX10_bestBlock_130 : decode mX10_bestBlock.2.1 130 = .ok (.iload 4, 2) := by decide +kernel
theorem dX10_bestBlock_132 : decode mX10_bestBlock.2.1 132 = .ok (.goto 5, 3) := by decide +kernel
theorem dX10_bestBlock_135 : decode mX10_bestBlock.2.1 135 = .ok (.iload 5, 2) := by decide +kernel
theorem dX10_bestBlock_137 : decode mX10_bestBlock.2.1 137 = .ok (.ireturn, 1) := by decide +kernel
theorem dX10_greatestNoise_0 : decode mX10_greatestNoise.2.1 0 = .ok (.aload_n 0, 1) := by decide +kernel
theorem dX10_greatestNoise_1 : decode mX10_greatestNoise.2.1 1 = .ok (.getfield 21, 3) := by decide +kernel
theorem dX10_greatestNoise_4 : decode mX10_greatestNoise.2.1 4 = .ok (.aload_n 1, 1) := by decide +kernel
theorem dX10_greatestNoise_5 : decode mX10_greatestNoise.2.1 5 = .ok (.invokevirtual 43, 3) := by decide +kernel
theorem dX10_greatestNoise_8 : decode mX10_greatestNoise.2.1 8 = .ok (.getstatic 85, 3) := by decide +kernel
theorem dX10_greatestNoise_11 : decode mX10_greatestNoise.2.1 11 = .ok (.iconst 2, 1) := by decide +kernel
theorem dX10_greatestNoise_12 : decode mX10_greatestNoise.2.1 12 = .ok (.iaload, 1) := by decide +kernel
theorem dX10_greatestNoise_13 : decode mX10_greatestNoise.2.1 13 = .ok (.istore_n 3, 1) := by decide +kernel
theorem dX10_greatestNoise_14 : decode mX10_greatestNoise.2.1 14 = .ok (.iload_n 3, 1) := by decide +kernel
theorem dX10_greatestNoise_15 : decode mX10_greatestNoise.2.1 15 = .ok (.getstatic 81, 3) := by decide +kernel
theorem dX10_greatestNoise_18 : decode mX10_greatestNoise.2.1 18 = .ok (.iconst 2, 1) := by decide +kernel
theorem dX10_greatestNoise_19 : decode mX10_greatestNoise.2.1 19 = .ok (.iaload, 1) := by decide +kernel
theorem dX10_greatestNoise_20 : decode mX10_greatestNoise.2.1 20 = .ok (.if_icmp .lt 97, 3) := by decide +kernel
theorem dX10_greatestNoise_23 : decode mX10_greatestNoise.2.1 23 = .ok (.aload_n 0, 1) := by decide +kernel
theorem dX10_greatestNoise_24 : decode mX10_greatestNoise.2.1 24 = .ok (.getfield 21, 3) := by decide +kernel
theorem dX10_greatestNoise_27 : decode mX10_greatestNoise.2.1 27 = .ok (.iconst 2, 1) := by decide +kernel
theorem dX10_greatestNoise_28 : decode mX10_greatestNoise.2.1 28 = .ok (.iload_n 3, 1) := by decide +kernel
theorem dX10_greatestNoise_29 : decode mX10_greatestNoise.2.1 29 = .ok (.invokevirtual 88, 3) := by decide +kernel
theorem dX10_greatestNoise_32 : decode mX10_greatestNoise.2.1 32 = .ok (.iconst 0, 1) := by decide +kernel
theorem dX10_greatestNoise_33 : decode mX10_greatestNoise.2.1 33 = .ok (.istore 4, 2) := by decide +kernel
theorem dX10_greatestNoise_35 : decode mX10_greatestNoise.2.1 35 = .ok (.iconst 0, 1) := by decide +kernel
theorem dX10_greatestNoise_36 : decode mX10_greatestNoise.2.1 36 = .ok (.istore 5, 2) := by decide +kernel
theorem dX10_greatestNoise_38 : decode mX10_greatestNoise.2.1 38 = .ok (.iload 5, 2) := by decide +kernel
theorem dX10_greatestNoise_40 : decode mX10_greatestNoise.2.1 40 = .ok (.iload_n 2, 1) := by decide +kernel
theorem dX10_greatestNoise_41 : decode mX10_greatestNoise.2.1 41 = .ok (.if_icmp .ge 62, 3) := by decide +kernel
theorem dX10_greatestNoise_44 : decode mX10_greatestNoise.2.1 44 = .ok (.iload 4, 2) := by decide +kernel
theorem dX10_greatestNoise_46 : decode mX10_greatestNoise.2.1 46 = .ok (.iload 5, 2) := by decide +kernel
theorem dX10_greatestNoise_48 : decode mX10_greatestNoise.2.1 48 = .ok (.if_icmp .ne 55, 3) := by decide +kernel
theorem dX10_greatestNoise_51 : decode mX10_greatestNoise.2.1 51 = .ok (.aload_n 0, 1) := by decide +kernel
theorem dX10_greatestNoise_52 : decode mX10_greatestNoise.2.1 52 = .ok (.aload_n 1, 1) := by decide +kernel
theorem dX10_greatestNoise_53 : decode mX10_greatestNoise.2.1 53 = .ok (.iconst 1, 1) := by decide +kernel
theorem dX10_greatestNoise_54 : decode mX10_greatestNoise.2.1 54 = .ok (.invokevirtual 54, 3) := by decide +kernel
theorem dX10_greatestNoise_57 : decode mX10_greatestNoise.2.1 57 = .ok (.iload 5, 2) := by decide +kernel
theorem dX10_greatestNoise_59 : decode mX10_greatestNoise.2.1 59 = .ok (.iadd, 1) := by decide +kernel
theorem dX10_greatestNoise_60 : decode mX10_greatestNoise.2.1 60 = .ok (.invokevirtual 92, 3) := by decide +kernel
theorem dX10_greatestNoise_63 : decode mX10_greatestNoise.2.1 63 = .ok (.iload 4, 2) := by decide +kernel
theorem dX10_greatestNoise_65 : decode mX10_greatestNoise.2.1 65 = .ok (.aload_n 0, 1) := by decide +kernel
theorem dX10_greatestNoise_66 : decode mX10_greatestNoise.2.1 66 = .ok (.getfield 12, 3) := by decide +kernel
theorem dX10_greatestNoise_69 : decode mX10_greatestNoise.2.1 69 = .ok (.getfield 95, 3) := by decide +kernel
theorem dX10_greatestNoise_72 : decode mX10_greatestNoise.2.1 72 = .ok (.iconst 5, 1) := by decide +kernel
theorem dX10_greatestNoise_73 : decode mX10_greatestNoise.2.1 73 = .ok (.if_icmp .ne 20, 3) := by decide +kernel
theorem dX10_greatestNoise_76 : decode mX10_greatestNoise.2.1 76 = .ok (.aload_n 0, 1) := by decide +kernel
theorem dX10_greatestNoise_77 : decode mX10_greatestNoise.2.1 77 = .ok (.getfield 12, 3) := by decide +kernel
theorem dX10_greatestNoise_80 : decode mX10_greatestNoise.2.1 80 = .ok (.getfield 98, 3) := by decide +kernel
theorem dX10_greatestNoise_83 : decode mX10_greatestNoise.2.1 83 = .ok (.invokevirtual 102, 3) := by decide +kernel
theorem dX10_greatestNoise_86 : decode mX10_greatestNoise.2.1 86 = .ok (.ifCond .ne 7, 3) := by decide +kernel
theorem dX10_greatestNoise_89 : decode mX10_greatestNoise.2.1 89 = .ok (.iconst 1, 1) := by decide +kernel
theorem dX10_greatestNoise_90 : decode mX10_greatestNoise.2.1 90 = .ok (.goto 4, 3) := by decide +kernel
theorem dX10_greatestNoise_93 : decode mX10_greatestNoise.2.1 93 = .ok (.iconst 0, 1) := by decide +kernel
theorem dX10_greatestNoise_94 : decode mX10_greatestNoise.2.1 94 = .ok (.iadd, 1) := by decide +kernel
theorem dX10_greatestNoise_95 : decode mX10_greatestNoise.2.1 95 = .ok (.istore 4, 2) := by decide +kernel
theorem dX10_greatestNoise_97 : decode mX10_greatestNoise.2.1 97 = .ok (.iinc 5 1, 3) := by decide +kernel
theorem dX10_greatestNoise_100 : decode mX10_greatestNoise.2.1 100 = .ok (.goto (-62), 3) := by decide +kernel
theorem dX10_greatestNoise_103 : decode mX10_greatestNoise.2.1 103 = .ok (.iload 4, 2) := by decide +kernel
theorem dX10_greatestNoise_105 : decode mX10_greatestNoise.2.1 105 = .ok (.iload_n 2, 1) := by decide +kernel
theorem dX10_greatestNoise_106 : decode mX10_greatestNoise.2.1 106 = .ok (.if_icmp .ne 5, 3) := by decide +kernel
theorem dX10_greatestNoise_109 : decode mX10_greatestNoise.2.1 109 = .ok (.iload_n 3, 1) := by decide +kernel
theorem dX10_greatestNoise_110 : decode mX10_greatestNoise.2.1 110 = .ok (.ireturn, 1) := by decide +kernel
theorem dX10_greatestNoise_111 : decode mX10_greatestNoise.2.1 111 = .ok (.iinc 3 (-10), 3) := by decide +kernel
theorem dX10_greatestNoise_114 : decode mX10_greatestNoise.2.1 114 = .ok (.goto (-100), 3) := by decide +kernel
theorem dX10_greatestNoise_117 : decode mX10_greatestNoise.2.1 117 = .ok (.bipush (-2), 2) := by decide +kernel
theorem dX10_greatestNoise_119 : decode mX10_greatestNoise.2.1 119 = .ok (.ireturn, 1) := by decide +kernel
theorem dX10_init_0 : decode mX10_init.2.1 0 = .ok (.aload_n 0, 1) := by decide +kernel
theorem dX10_init_1 : decode mX10_init.2.1 1 = .ok (.invokespecial 3, 3) := by decide +kernel
theorem dX10_init_4 : decode mX10_init.2.1 4 = .ok (.aload_n 0, 1) := by decide +kernel
theorem dX10_init_5 : decode mX10_init.2.1 5 = .ok (.new 9, 3) := by decide +kernel
theorem dX10_init_8 : decode mX10_init.2.1 8 = .ok (.dup, 1) := by decide +kernel
theorem dX10_init_9 : decode mX10_init.2.1 9 = .ok (.invokespecial 11, 3) := by decide +kernel
theorem dX10_init_12 : decode mX10_init.2.1 12 = .ok (.putfield 12, 3) := by decide +kernel
theorem dX10_init_15 : decode mX10_init.2.1 15 = .ok (.aload_n 0, 1) := by decide +kernel
theorem dX10_init_16 : decode mX10_init.2.1 16 = .ok (.new 18, 3) := by decide +kernel
theorem dX10_init_19 : decode mX10_init.2.1 19 = .ok (.dup, 1) := by decide +kernel
theorem dX10_init_20 : decode mX10_init.2.1 20 = .ok (.invokespecial 20, 3) := by decide +kernel
theorem dX10_init_23 : decode mX10_init.2.1 23 = .ok (.putfield 21, 3) := by decide +kernel
theorem dX10_init_26 : decode mX10_init.2.1 26 = .ok (.aload_n 0, 1) := by decide +kernel
theorem dX10_init_27 : decode mX10_init.2.1 27 = .ok (.new 25, 3) := by decide +kernel
theorem dX10_init_30 : decode mX10_init.2.1 30 = .ok (.dup, 1) := by decide +kernel
theorem dX10_init_31 : decode mX10_init.2.1 31 = .ok (.invokespecial 27, 3) := by decide +kernel
theorem dX10_init_34 : decode mX10_init.2.1 34 = .ok (.putfield 28, 3) := by decide +kernel
theorem dX10_init_37 : decode mX10_init.2.1 37 = .ok (.aload_n 0, 1) := by decide +kernel
theorem dX10_init_38 : decode mX10_init.2.1 38 = .ok (.new 32, 3) := by decide +kernel
theorem dX10_init_41 : decode mX10_init.2.1 41 = .ok (.dup, 1) := by decide +kernel
theorem dX10_init_42 : decode mX10_init.2.1 42 = .ok (.invokespecial 34, 3) := by decide +kernel
theorem dX10_init_45 : decode mX10_init.2.1 45 = .ok (.putfield 35, 3) := by decide +kernel
theorem dX10_init_48 : decode mX10_init.2.1 48 = .ok (.return_, 1) := by decide +kernel
theorem dX10_overSeeds_0 : decode mX10_overSeeds.2.1 0 = .ok (.iconst 0, 1) := by decide +kernel
theorem dX10_overSeeds_1 : decode mX10_overSeeds.2.1 1 = .ok (.istore 4, 2) := by decide +kernel
theorem dX10_overSeeds_3 : decode mX10_overSeeds.2.1 3 = .ok (.iconst 0, 1) := by decide +kernel
theorem dX10_overSeeds_4 : decode mX10_overSeeds.2.1 4 = .ok (.istore 5, 2) := by decide +kernel
theorem dX10_overSeeds_6 : decode mX10_overSeeds.2.1 6 = .ok (.iconst 0, 1) := by decide +kernel
theorem dX10_overSeeds_7 : decode mX10_overSeeds.2.1 7 = .ok (.istore 6, 2) := by decide +kernel
theorem dX10_overSeeds_9 : decode mX10_overSeeds.2.1 9 = .ok (.aload_n 0, 1) := by decide +kernel
theorem dX10_overSeeds_10 : decode mX10_overSeeds.2.1 10 = .ok (.getfield 21, 3) := by decide +kernel
theorem dX10_overSeeds_13 : decode mX10_overSeeds.2.1 13 = .ok (.aload_n 1, 1) := by decide +kernel
theorem dX10_overSeeds_14 : decode mX10_overSeeds.2.1 14 = .ok (.invokevirtual 43, 3) := by decide +kernel
theorem dX10_overSeeds_17 : decode mX10_overSeeds.2.1 17 = .ok (.iconst 0, 1) := by decide +kernel
theorem dX10_overSeeds_18 : decode mX10_overSeeds.2.1 18 = .ok (.istore 7, 2) := by decide +kernel
theorem dX10_overSeeds_20 : decode mX10_overSeeds.2.1 20 = .ok (.iload 7, 2) := by decide +kernel
theorem dX10_overSeeds_22 : decode mX10_overSeeds.2.1 22 = .ok (.iload_n 2, 1) := by decide +kernel
theorem dX10_overSeeds_23 : decode mX10_overSeeds.2.1 23 = .ok (.if_icmp .ge 73, 3) := by decide +kernel
theorem dX10_overSeeds_26 : decode mX10_overSeeds.2.1 26 = .ok (.aload_n 0, 1) := by decide +kernel
theorem dX10_overSeeds_27 : decode mX10_overSeeds.2.1 27 = .ok (.aload_n 1, 1) := by decide +kernel
theorem dX10_overSeeds_28 : decode mX10_overSeeds.2.1 28 = .ok (.iconst 1, 1) := by decide +kernel
theorem dX10_overSeeds_29 : decode mX10_overSeeds.2.1 29 = .ok (.invokevirtual 54, 3) := by decide +kernel
theorem dX10_overSeeds_32 : decode mX10_overSeeds.2.1 32 = .ok (.iload 7, 2) := by decide +kernel
theorem dX10_overSeeds_34 : decode mX10_overSeeds.2.1 34 = .ok (.iadd, 1) := by decide +kernel
theorem dX10_overSeeds_35 : decode mX10_overSeeds.2.1 35 = .ok (.invokevirtual 92, 3) := by decide +kernel
theorem dX10_overSeeds_38 : decode mX10_overSeeds.2.1 38 = .ok (.aload_n 0, 1) := by decide +kernel
theorem dX10_overSeeds_39 : decode mX10_overSeeds.2.1 39 = .ok (.getfield 12, 3) := by decide +kernel
theorem dX10_overSeeds_42 : decode mX10_overSeeds.2.1 42 = .ok (.getfield 95, 3) := by decide +kernel
theorem dX10_overSeeds_45 : decode mX10_overSeeds.2.1 45 = .ok (.iconst 5, 1) := by decide +kernel
theorem dX10_overSeeds_46 : decode mX10_overSeeds.2.1 46 = .ok (.if_icmp .ne 44, 3) := by decide +kernel
theorem dX10_overSeeds_49 : decode mX10_overSeeds.2.1 49 = .ok (.iinc 4 1, 3) := by decide +kernel
theorem dX10_overSeeds_52 : decode mX10_overSeeds.2.1 52 = .ok (.iload 5, 2) := by decide +kernel
theorem dX10_overSeeds_54 : decode mX10_overSeeds.2.1 54 = .ok (.aload_n 0, 1) := by decide +kernel
theorem dX10_overSeeds_55 : decode mX10_overSeeds.2.1 55 = .ok (.getfield 12, 3) := by decide +kernel
theorem dX10_overSeeds_58 : decode mX10_overSeeds.2.1 58 = .ok (.getfield 98, 3) := by decide +kernel
theorem dX10_overSeeds_61 : decode mX10_overSeeds.2.1 61 = .ok (.invokevirtual 102, 3) := by decide +kernel
theorem dX10_overSeeds_64 : decode mX10_overSeeds.2.1 64 = .ok (.ifCond .eq 7, 3) := by decide +kernel
theorem dX10_overSeeds_67 : decode mX10_overSeeds.2.1 67 = .ok (.iconst 1, 1) := by decide +kernel
theorem dX10_overSeeds_68 : decode mX10_overSeeds.2.1 68 = .ok (.goto 4, 3) := by decide +kernel
theorem dX10_overSeeds_71 : decode mX10_overSeeds.2.1 71 = .ok (.iconst 0, 1) := by decide +kernel
theorem dX10_overSeeds_72 : decode mX10_overSeeds.2.1 72 = .ok (.iadd, 1) := by decide +kernel
theorem dX10_overSeeds_73 : decode mX10_overSeeds.2.1 73 = .ok (.istore 5, 2) := by decide +kernel
theorem dX10_overSeeds_75 : decode mX10_overSeeds.2.1 75 = .ok (.iload 6, 2) := by decide +kernel
theorem dX10_overSeeds_77 : decode mX10_overSeeds.2.1 77 = .ok (.aload_n 0, 1) := by decide +kernel
theorem dX10_overSeeds_78 : decode mX10_overSeeds.2.1 78 = .ok (.getfield 12, 3) := by decide +kernel
theorem dX10_overSeeds_81 : decode mX10_overSeeds.2.1 81 = .ok (.getfield 98, 3) := by decide +kernel
theorem dX10_overSeeds_84 : decode mX10_overSeeds.2.1 84 = .ok (.getfield 108, 3) := by decide +kernel
theorem dX10_overSeeds_87 : decode mX10_overSeeds.2.1 87 = .ok (.iadd, 1) := by decide +kernel
theorem dX10_overSeeds_88 : decode mX10_overSeeds.2.1 88 = .ok (.istore 6, 2) := by decide +kernel
theorem dX10_overSeeds_90 : decode mX10_overSeeds.2.1 90 = .ok (.iinc 7 1, 3) := by decide +kernel
theorem dX10_overSeeds_93 : decode mX10_overSeeds.2.1 93 = .ok (.goto (-73), 3) := by decide +kernel
theorem dX10_overSeeds_96 : decode mX10_overSeeds.2.1 96 = .ok (.iload_n 3, 1) := by decide +kernel
theorem dX10_overSeeds_97 : decode mX10_overSeeds.2.1 97 = .ok (.ifCond .ne 8, 3) := by decide +kernel
theorem dX10_overSeeds_100 : decode mX10_overSeeds.2.1 100 = .ok (.iload 4, 2) := by decide +kernel
theorem dX10_overSeeds_102 : decode mX10_overSeeds.2.1 102 = .ok (.goto 15, 3) := by decide +kernel
theorem dX10_overSeeds_105 : decode mX10_overSeeds.2.1 105 = .ok (.iload_n 3, 1) := by decide +kernel
theorem dX10_overSeeds_106 : decode mX10_overSeeds.2.1 106 = .ok (.iconst 1, 1) := by decide +kernel
theorem dX10_overSeeds_107 : decode mX10_overSeeds.2.1 107 = .ok (.if_icmp .ne 8, 3) := by decide +kernel
theorem dX10_overSeeds_110 : decode mX10_overSeeds.2.1 110 = .ok (.iload 5, 2) := by decide +kernel
theorem dX10_overSeeds_112 : decode mX10_overSeeds.2.1 112 = .ok (.goto 5, 3) := by decide +kernel
theorem dX10_overSeeds_115 : decode mX10_overSeeds.2.1 115 = .ok (.iload 6, 2) := by decide +kernel
theorem dX10_overSeeds_117 : decode mX10_overSeeds.2.1 117 = .ok (.ireturn, 1) := by decide +kernel
theorem dX10_passOn_0 : decode mX10_passOn.2.1 0 = .ok (.iconst 0, 1) := by decide +kernel
theorem dX10_passOn_1 : decode mX10_passOn.2.1 1 = .ok (.istore_n 2, 1) := by decide +kernel
theorem dX10_passOn_2 : decode mX10_passOn.2.1 2 = .ok (.iload_n 2, 1) := by decide +kernel
theorem dX10_passOn_3 : decode mX10_passOn.2.1 3 = .ok (.iload_n 1, 1) := by decide +kernel
theorem dX10_passOn_4 : decode mX10_passOn.2.1 4 = .ok (.if_icmp .ge 48, 3) := by decide +kernel
theorem dX10_passOn_7 : decode mX10_passOn.2.1 7 = .ok (.aload_n 0, 1) := by decide +kernel
theorem dX10_passOn_8 : decode mX10_passOn.2.1 8 = .ok (.getfield 12, 3) := by decide +kernel
theorem dX10_passOn_11 : decode mX10_passOn.2.1 11 = .ok (.getfield 50, 3) := by decide +kernel
theorem dX10_passOn_14 : decode mX10_passOn.2.1 14 = .ok (.aload_n 0, 1) := by decide +kernel
theorem dX10_passOn_15 : decode mX10_passOn.2.1 15 = .ok (.getfield 21, 3) := by decide +kernel
theorem dX10_passOn_18 : decode mX10_passOn.2.1 18 = .ok (.bipush 6, 2) := by decide +kernel
theorem dX10_passOn_20 : decode mX10_passOn.2.1 20 = .ok (.invokevirtual 54, 3) := by decide +kernel
theorem dX10_passOn_23 : decode mX10_passOn.2.1 23 = .ok (.if_icmp .ge 29, 3) := by decide +kernel
theorem dX10_passOn_26 : decode mX10_passOn.2.1 26 = .ok (.aload_n 0, 1) := by decide +kernel
theorem dX10_passOn_27 : decode mX10_passOn.2.1 27 = .ok (.getfield 35, 3) := by decide +kernel
theorem dX10_passOn_30 : decode mX10_passOn.2.1 30 = .ok (.aload_n 0, 1) := by decide +kernel
theorem dX10_passOn_31 : decode mX10_passOn.2.1 31 = .ok (.getfield 12, 3) := by decide +kernel
theorem dX10_passOn_34 : decode mX10_passOn.2.1 34 = .ok (.aload_n 0, 1) := by decide +kernel
theorem dX10_passOn_35 : decode mX10_passOn.2.1 35 = .ok (.getfield 21, 3) := by decide +kernel
theorem dX10_passOn_38 : decode mX10_passOn.2.1 38 = .ok (.iconst 5, 1) := by decide +kernel
theorem dX10_passOn_39 : decode mX10_passOn.2.1 39 = .ok (.invokevirtual 54, 3) := by decide +kernel
theorem dX10_passOn_42 : decode mX10_passOn.2.1 42 = .ok (.invokevirtual 58, 3) := by decide +kernel
theorem dX10_passOn_45 : decode mX10_passOn.2.1 45 = .ok (.pop, 1) := by decide +kernel
theorem dX10_passOn_46 : decode mX10_passOn.2.1 46 = .ok (.iinc 2 1, 3) := by decide +kernel
theorem dX10_passOn_49 : decode mX10_passOn.2.1 49 = .ok (.goto (-47), 3) := by decide +kernel
theorem dX10_passOn_52 : decode mX10_passOn.2.1 52 = .ok (.return_, 1) := by decide +kernel
theorem dX10_roundsTillAlike_0 : decode mX10_roundsTillAlike.2.1 0 = .ok (.aload_n 0, 1) := by decide +kernel
theorem dX10_roundsTillAlike_1 : decode mX10_roundsTillAlike.2.1 1 = .ok (.getfield 12, 3) := by decide +kernel
theorem dX10_roundsTillAlike_4 : decode mX10_roundsTillAlike.2.1 4 = .ok (.aload_n 1, 1) := by decide +kernel
theorem dX10_roundsTillAlike_5 : decode mX10_roundsTillAlike.2.1 5 = .ok (.invokevirtual 39, 3) := by decide +kernel
theorem dX10_roundsTillAlike_8 : decode mX10_roundsTillAlike.2.1 8 = .ok (.aload_n 0, 1) := by decide +kernel
theorem dX10_roundsTillAlike_9 : decode mX10_roundsTillAlike.2.1 9 = .ok (.getfield 21, 3) := by decide +kernel
theorem dX10_roundsTillAlike_12 : decode mX10_roundsTillAlike.2.1 12 = .ok (.aload_n 2, 1) := by decide +kernel
theorem dX10_roundsTillAlike_13 : decode mX10_roundsTillAlike.2.1 13 = .ok (.invokevirtual 43, 3) := by decide +kernel
theorem dX10_roundsTillAlike_16 : decode mX10_roundsTillAlike.2.1 16 = .ok (.iconst 0, 1) := by decide +kernel
theorem dX10_roundsTillAlike_17 : decode mX10_roundsTillAlike.2.1 17 = .ok (.istore 4, 2) := by decide +kernel
theorem dX10_roundsTillAlike_19 : decode mX10_roundsTillAlike.2.1 19 = .ok (.iload 4, 2) := by decide +kernel
theorem dX10_roundsTillAlike_21 : decode mX10_roundsTillAlike.2.1 21 = .ok (.bipush 6, 2) := by decide +kernel
theorem dX10_roundsTillAlike_23 : decode mX10_roundsTillAlike.2.1 23 = .ok (.if_icmp .gt 77, 3) := by decide +kernel
theorem dX10_roundsTillAlike_26 : decode mX10_roundsTillAlike.2.1 26 = .ok (.aload_n 0, 1) := by decide +kernel
theorem dX10_roundsTillAlike_27 : decode mX10_roundsTillAlike.2.1 27 = .ok (.getfield 12, 3) := by decide +kernel
theorem dX10_roundsTillAlike_30 : decode mX10_roundsTillAlike.2.1 30 = .ok (.getfield 62, 3) := by decide +kernel
theorem dX10_roundsTillAlike_33 : decode mX10_roundsTillAlike.2.1 33 = .ok (.invokevirtual 66, 3) := by decide +kernel
theorem dX10_roundsTillAlike_36 : decode mX10_roundsTillAlike.2.1 36 = .ok (.ifCond .ne 31, 3) := by decide +kernel
theorem dX10_roundsTillAlike_39 : decode mX10_roundsTillAlike.2.1 39 = .ok (.iload_n 3, 1) := by decide +kernel
theorem dX10_roundsTillAlike_40 : decode mX10_roundsTillAlike.2.1 40 = .ok (.ifCond .ne 8, 3) := by decide +kernel
theorem dX10_roundsTillAlike_43 : decode mX10_roundsTillAlike.2.1 43 = .ok (.iload 4, 2) := by decide +kernel
theorem dX10_roundsTillAlike_45 : decode mX10_roundsTillAlike.2.1 45 = .ok (.goto 21, 3) := by decide +kernel
theorem dX10_roundsTillAlike_48 : decode mX10_roundsTillAlike.2.1 48 = .ok (.aload_n 0, 1) := by decide +kernel
theorem dX10_roundsTillAlike_49 : decode mX10_roundsTillAlike.2.1 49 = .ok (.getfield 12, 3) := by decide +kernel
theorem dX10_roundsTillAlike_52 : decode mX10_roundsTillAlike.2.1 52 = .ok (.getfield 72, 3) := by decide +kernel
theorem dX10_roundsTillAlike_55 : decode mX10_roundsTillAlike.2.1 55 = .ok (.getfield 76, 3) := by decide +kernel
theorem dX10_roundsTillAlike_58 : decode mX10_roundsTillAlike.2.1 58 = .ok (.aload_n 1, 1) := by decide +kernel
theorem dX10_roundsTillAlike_59 : decode mX10_roundsTillAlike.2.1 59 = .ok (.getfield 72, 3) := by decide +kernel
theorem dX10_roundsTillAlike_62 : decode mX10_roundsTillAlike.2.1 62 = .ok (.getfield 76, 3) := by decide +kernel
theorem dX10_roundsTillAlike_65 : decode mX10_roundsTillAlike.2.1 65 = .ok (.isub, 1) := by decide +kernel
theorem dX10_roundsTillAlike_66 : decode mX10_roundsTillAlike.2.1 66 = .ok (.ireturn, 1) := by decide +kernel
theorem dX10_roundsTillAlike_67 : decode mX10_roundsTillAlike.2.1 67 = .ok (.aload_n 0, 1) := by decide +kernel
theorem dX10_roundsTillAlike_68 : decode mX10_roundsTillAlike.2.1 68 = .ok (.getfield 12, 3) := by decide +kernel
theorem dX10_roundsTillAlike_71 : decode mX10_roundsTillAlike.2.1 71 = .ok (.getfield 50, 3) := by decide +kernel
theorem dX10_roundsTillAlike_74 : decode mX10_roundsTillAlike.2.1 74 = .ok (.aload_n 0, 1) := by decide +kernel
theorem dX10_roundsTillAlike_75 : decode mX10_roundsTillAlike.2.1 75 = .ok (.getfield 21, 3) := by decide +kernel
theorem dX10_roundsTillAlike_78 : decode mX10_roundsTillAlike.2.1 78 = .ok (.bipush 6, 2) := by decide +kernel
theorem dX10_roundsTillAlike_80 : decode mX10_roundsTillAlike.2.1 80 = .ok (.invokevirtual 54, 3) := by decide +kernel
theorem dX10_roundsTillAlike_83 : decode mX10_roundsTillAlike.2.1 83 = .ok (.if_icmp .lt 6, 3) := by decide +kernel
theorem dX10_roundsTillAlike_86 : decode mX10_roundsTillAlike.2.1 86 = .ok (.bipush (-2), 2) := by decide +kernel
theorem dX10_roundsTillAlike_88 : decode mX10_roundsTillAlike.2.1 88 = .ok (.ireturn, 1) := by decide +kernel
theorem dX10_roundsTillAlike_89 : decode mX10_roundsTillAlike.2.1 89 = .ok (.aload_n 0, 1) := by decide +kernel
theorem dX10_roundsTillAlike_90 : decode mX10_roundsTillAlike.2.1 90 = .ok (.iconst 1, 1) := by decide +kernel
theorem dX10_roundsTillAlike_91 : decode mX10_roundsTillAlike.2.1 91 = .ok (.invokevirtual 46, 3) := by decide +kernel
theorem dX10_roundsTillAlike_94 : decode mX10_roundsTillAlike.2.1 94 = .ok (.iinc 4 1, 3) := by decide +kernel
theorem dX10_roundsTillAlike_97 : decode mX10_roundsTillAlike.2.1 97 = .ok (.goto (-78), 3) := by decide +kernel
theorem dX10_roundsTillAlike_100 : decode mX10_roundsTillAlike.2.1 100 = .ok (.bipush (-2), 2) := by decide +kernel
theorem dX10_roundsTillAlike_102 : decode mX10_roundsTillAlike.2.1 102 = .ok (.ireturn, 1) := by decide +kernel
theorem dX10_runPasses_0 : decode mX10_runPasses.2.1 0 = .ok (.aload_n 0, 1) := by decide +kernel
theorem dX10_runPasses_1 : decode mX10_runPasses.2.1 1 = .ok (.getfield 12, 3) := by decide +kernel
theorem dX10_runPasses_4 : decode mX10_runPasses.2.1 4 = .ok (.aload_n 1, 1) := by decide +kernel
theorem dX10_runPasses_5 : decode mX10_runPasses.2.1 5 = .ok (.invokevirtual 39, 3) := by decide +kernel
theorem dX10_runPasses_8 : decode mX10_runPasses.2.1 8 = .ok (.aload_n 0, 1) := by decide +kernel
theorem dX10_runPasses_9 : decode mX10_runPasses.2.1 9 = .ok (.getfield 21, 3) := by decide +kernel
theorem dX10_runPasses_12 : decode mX10_runPasses.2.1 12 = .ok (.aload_n 2, 1) := by decide +kernel
theorem dX10_runPasses_13 : decode mX10_runPasses.2.1 13 = .ok (.invokevirtual 43, 3) := by decide +kernel
theorem dX10_runPasses_16 : decode mX10_runPasses.2.1 16 = .ok (.aload_n 0, 1) := by decide +kernel
theorem dX10_runPasses_17 : decode mX10_runPasses.2.1 17 = .ok (.iload_n 3, 1) := by decide +kernel
theorem dX10_runPasses_18 : decode mX10_runPasses.2.1 18 = .ok (.invokevirtual 46, 3) := by decide +kernel
theorem dX10_runPasses_21 : decode mX10_runPasses.2.1 21 = .ok (.return_, 1) := by decide +kernel
theorem dX10_runWhole_0 : decode mX10_runWhole.2.1 0 = .ok (.aload_n 0, 1) := by decide +kernel
theorem dX10_runWhole_1 : decode mX10_runWhole.2.1 1 = .ok (.getfield 21, 3) := by decide +kernel
theorem dX10_runWhole_4 : decode mX10_runWhole.2.1 4 = .ok (.iconst 1, 1) := by decide +kernel
theorem dX10_runWhole_5 : decode mX10_runWhole.2.1 5 = .ok (.iload_n 1, 1) := by decide +kernel
theorem dX10_runWhole_6 : decode mX10_runWhole.2.1 6 = .ok (.invokevirtual 88, 3) := by decide +kernel
theorem dX10_runWhole_9 : decode mX10_runWhole.2.1 9 = .ok (.aload_n 0, 1) := by decide +kernel
theorem dX10_runWhole_10 : decode mX10_runWhole.2.1 10 = .ok (.getfield 28, 3) := by decide +kernel
theorem dX10_runWhole_13 : decode mX10_runWhole.2.1 13 = .ok (.aload_n 0, 1) := by decide +kernel
theorem dX10_runWhole_14 : decode mX10_runWhole.2.1 14 = .ok (.getfield 12, 3) := by decide +kernel
theorem dX10_runWhole_17 : decode mX10_runWhole.2.1 17 = .ok (.aload_n 0, 1) := by decide +kernel
theorem dX10_runWhole_18 : decode mX10_runWhole.2.1 18 = .ok (.getfield 21, 3) := by decide +kernel
theorem dX10_runWhole_21 : decode mX10_runWhole.2.1 21 = .ok (.invokevirtual 111, 3) := by decide +kernel
theorem dX10_runWhole_24 : decode mX10_runWhole.2.1 24 = .ok (.aload_n 0, 1) := by decide +kernel
theorem dX10_runWhole_25 : decode mX10_runWhole.2.1 25 = .ok (.getfield 28, 3) := by decide +kernel
theorem dX10_runWhole_28 : decode mX10_runWhole.2.1 28 = .ok (.aload_n 0, 1) := by decide +kernel
theorem dX10_runWhole_29 : decode mX10_runWhole.2.1 29 = .ok (.getfield 12, 3) := by decide +kernel
theorem dX10_runWhole_32 : decode mX10_runWhole.2.1 32 = .ok (.aload_n 0, 1) := by decide +kernel
theorem dX10_runWhole_33 : decode mX10_runWhole.2.1 33 = .ok (.getfield 21, 3) := by decide +kernel
theorem dX10_runWhole_36 : decode mX10_runWhole.2.1 36 = .ok (.invokevirtual 115, 3) := by decide +kernel
theorem dX10_runWhole_39 : decode mX10_runWhole.2.1 39 = .ok (.iconst 0, 1) := by decide +kernel
theorem dX10_runWhole_40 : decode mX10_runWhole.2.1 40 = .ok (.istore_n 2, 1) := by decide +kernel
theorem dX10_runWhole_41 : decode mX10_runWhole.2.1 41 = .ok (.iload_n 2, 1) := by decide +kernel
theorem dX10_runWhole_42 : decode mX10_runWhole.2.1 42 = .ok (.bipush 6, 2) := by decide +kernel
theorem dX10_runWhole_44 : decode mX10_runWhole.2.1 44 = .ok (.if_icmp .ge 48, 3) := by decide +kernel
theorem dX10_runWhole_47 : decode mX10_runWhole.2.1 47 = .ok (.aload_n 0, 1) := by decide +kernel
theorem dX10_runWhole_48 : decode mX10_runWhole.2.1 48 = .ok (.getfield 12, 3) := by decide +kernel
theorem dX10_runWhole_51 : decode mX10_runWhole.2.1 51 = .ok (.getfield 50, 3) := by decide +kernel
theorem dX10_runWhole_54 : decode mX10_runWhole.2.1 54 = .ok (.aload_n 0, 1) := by decide +kernel
theorem dX10_runWhole_55 : decode mX10_runWhole.2.1 55 = .ok (.getfield 21, 3) := by decide +kernel
theorem dX10_runWhole_58 : decode mX10_runWhole.2.1 58 = .ok (.bipush 6, 2) := by decide +kernel
theorem dX10_runWhole_60 : decode mX10_runWhole.2.1 60 = .ok (.invokevirtual 54, 3) := by decide +kernel
theorem dX10_runWhole_63 : decode mX10_runWhole.2.1 63 = .ok (.if_icmp .ge 29, 3) := by decide +kernel
theorem dX10_runWhole_66 : decode mX10_runWhole.2.1 66 = .ok (.aload_n 0, 1) := by decide +kernel
theorem dX10_runWhole_67 : decode mX10_runWhole.2.1 67 = .ok (.getfield 35, 3) := by decide +kernel
theorem dX10_runWhole_70 : decode mX10_runWhole.2.1 70 = .ok (.aload_n 0, 1) := by decide +kernel
theorem dX10_runWhole_71 : decode mX10_runWhole.2.1 71 = .ok (.getfield 12, 3) := by decide +kernel
theorem dX10_runWhole_74 : decode mX10_runWhole.2.1 74 = .ok (.aload_n 0, 1) := by decide +kernel
theorem dX10_runWhole_75 : decode mX10_runWhole.2.1 75 = .ok (.getfield 21, 3) := by decide +kernel
theorem dX10_runWhole_78 : decode mX10_runWhole.2.1 78 = .ok (.iconst 5, 1) := by decide +kernel
theorem dX10_runWhole_79 : decode mX10_runWhole.2.1 79 = .ok (.invokevirtual 54, 3) := by decide +kernel
theorem dX10_runWhole_82 : decode mX10_runWhole.2.1 82 = .ok (.invokevirtual 58, 3) := by decide +kernel
theorem dX10_runWhole_85 : decode mX10_runWhole.2.1 85 = .ok (.pop, 1) := by decide +kernel
theorem dX10_runWhole_86 : decode mX10_runWhole.2.1 86 = .ok (.iinc 2 1, 3) := by decide +kernel
theorem dX10_runWhole_89 : decode mX10_runWhole.2.1 89 = .ok (.goto (-48), 3) := by decide +kernel
theorem dX10_runWhole_92 : decode mX10_runWhole.2.1 92 = .ok (.aload_n 0, 1) := by decide +kernel
theorem dX10_runWhole_93 : decode mX10_runWhole.2.1 93 = .ok (.getfield 28, 3) := by decide +kernel
theorem dX10_runWhole_96 : decode mX10_runWhole.2.1 96 = .ok (.aload_n 0, 1) := by decide +kernel
theorem dX10_runWhole_97 : decode mX10_runWhole.2.1 97 = .ok (.getfield 12, 3) := by decide +kernel
theorem dX10_runWhole_100 : decode mX10_runWhole.2.1 100 = .ok (.aload_n 0, 1) := by decide +kernel
theorem dX10_runWhole_101 : decode mX10_runWhole.2.1 101 = .ok (.getfield 21, 3) := by decide +kernel
theorem dX10_runWhole_104 : decode mX10_runWhole.2.1 104 = .ok (.invokevirtual 118, 3) := by decide +kernel
theorem dX10_runWhole_107 : decode mX10_runWhole.2.1 107 = .ok (.aload_n 0, 1) := by decide +kernel
theorem dX10_runWhole_108 : decode mX10_runWhole.2.1 108 = .ok (.getfield 12, 3) := by decide +kernel
theorem dX10_runWhole_111 : decode mX10_runWhole.2.1 111 = .ok (.getfield 95, 3) := by decide +kernel
theorem dX10_runWhole_114 : decode mX10_runWhole.2.1 114 = .ok (.iconst 4, 1) := by decide +kernel
theorem dX10_runWhole_115 : decode mX10_runWhole.2.1 115 = .ok (.if_icmp .ne 18, 3) := by decide +kernel
theorem dX10_runWhole_118 : decode mX10_runWhole.2.1 118 = .ok (.aload_n 0, 1) := by decide +kernel
theorem dX10_runWhole_119 : decode mX10_runWhole.2.1 119 = .ok (.getfield 28, 3) := by decide +kernel
theorem dX10_runWhole_122 : decode mX10_runWhole.2.1 122 = .ok (.aload_n 0, 1) := by decide +kernel
theorem dX10_runWhole_123 : decode mX10_runWhole.2.1 123 = .ok (.getfield 12, 3) := by decide +kernel
theorem dX10_runWhole_126 : decode mX10_runWhole.2.1 126 = .ok (.aload_n 0, 1) := by decide +kernel
theorem dX10_runWhole_127 : decode mX10_runWhole.2.1 127 = .ok (.getfield 21, 3) := by decide +kernel
theorem dX10_runWhole_130 : decode mX10_runWhole.2.1 130 = .ok (.invokevirtual 121, 3) := by decide +kernel
theorem dX10_runWhole_133 : decode mX10_runWhole.2.1 133 = .ok (.return_, 1) := by decide +kernel
theorem dX11_back_0 : decode mX11_back.2.1 0 = .ok (.iload_n 1, 1) := by decide +kernel
theorem dX11_back_1 : decode mX11_back.2.1 1 = .ok (.ifCond .lt 17, 3) := by decide +kernel
theorem dX11_back_4 : decode mX11_back.2.1 4 = .ok (.iload_n 1, 1) := by decide +kernel
theorem dX11_back_5 : decode mX11_back.2.1 5 = .ok (.iconst 2, 1) := by decide +kernel
theorem dX11_back_6 : decode mX11_back.2.1 6 = .ok (.if_icmp .ge 12, 3) := by decide +kernel
theorem dX11_back_9 : decode mX11_back.2.1 9 = .ok (.aload_n 0, 1) := by decide +kernel
theorem dX11_back_10 : decode mX11_back.2.1 10 = .ok (.getfield 49, 3) := by decide +kernel
theorem dX11_back_13 : decode mX11_back.2.1 13 = .ok (.iload_n 1, 1) := by decide +kernel
theorem dX11_back_14 : decode mX11_back.2.1 14 = .ok (.iaload, 1) := by decide +kernel
theorem dX11_back_15 : decode mX11_back.2.1 15 = .ok (.ifCond .ne 5, 3) := by decide +kernel
theorem dX11_back_18 : decode mX11_back.2.1 18 = .ok (.iconst (-1), 1) := by decide +kernel
theorem dX11_back_19 : decode mX11_back.2.1 19 = .ok (.ireturn, 1) := by decide +kernel
theorem dX11_back_20 : decode mX11_back.2.1 20 = .ok (.aload_n 0, 1) := by decide +kernel
theorem dX11_back_21 : decode mX11_back.2.1 21 = .ok (.getfield 34, 3) := by decide +kernel
theorem dX11_back_24 : decode mX11_back.2.1 24 = .ok (.aload_n 0, 1) := by decide +kernel
theorem dX11_back_25 : decode mX11_back.2.1 25 = .ok (.getfield 45, 3) := by decide +kernel
theorem dX11_back_28 : decode mX11_back.2.1 28 = .ok (.iload_n 1, 1) := by decide +kernel
theorem dX11_back_29 : decode mX11_back.2.1 29 = .ok (.aaload, 1) := by decide +kernel
theorem dX11_back_30 : decode mX11_back.2.1 30 = .ok (.invokevirtual 313, 3) := by decide +kernel
theorem dX11_back_33 : decode mX11_back.2.1 33 = .ok (.aload_n 0, 1) := by decide +kernel
theorem dX11_back_34 : decode mX11_back.2.1 34 = .ok (.getfield 41, 3) := by decide +kernel
theorem dX11_back_37 : decode mX11_back.2.1 37 = .ok (.invokevirtual 98, 3) := by decide +kernel
theorem dX11_back_40 : decode mX11_back.2.1 40 = .ok (.aload_n 0, 1) := by decide +kernel
theorem dX11_back_41 : decode mX11_back.2.1 41 = .ok (.getfield 34, 3) := by decide +kernel
theorem dX11_back_44 : decode mX11_back.2.1 44 = .ok (.getfield 126, 3) := by decide +kernel
theorem dX11_back_47 : decode mX11_back.2.1 47 = .ok (.ireturn, 1) := by decide +kernel
theorem dX11_begin_0 : decode mX11_begin.2.1 0 = .ok (.aload_n 0, 1) := by decide +kernel
theorem dX11_begin_1 : decode mX11_begin.2.1 1 = .ok (.getfield 41, 3) := by decide +kernel
theorem dX11_begin_4 : decode mX11_begin.2.1 4 = .ok (.aload_n 0, 1) := by decide +kernel
theorem dX11_begin_5 : decode mX11_begin.2.1 5 = .ok (.getfield 34, 3) := by decide +kernel
theorem dX11_begin_8 : decode mX11_begin.2.1 8 = .ok (.invokevirtual 109, 3) := by decide +kernel
theorem dX11_begin_11 : decode mX11_begin.2.1 11 = .ok (.aload_n 0, 1) := by decide +kernel
theorem dX11_begin_12 : decode mX11_begin.2.1 12 = .ok (.getfield 62, 3) := by decide +kernel
theorem dX11_begin_15 : decode mX11_begin.2.1 15 = .ok (.aload_n 0, 1) := by decide +kernel
theorem dX11_begin_16 : decode mX11_begin.2.1 16 = .ok (.getfield 34, 3) := by decide +kernel
theorem dX11_begin_19 : decode mX11_begin.2.1 19 = .ok (.aload_n 0, 1) := by decide +kernel
theorem dX11_begin_20 : decode mX11_begin.2.1 20 = .ok (.getfield 20, 3) := by decide +kernel
theorem dX11_begin_23 : decode mX11_begin.2.1 23 = .ok (.invokevirtual 113, 3) := by decide +kernel
theorem dX11_begin_26 : decode mX11_begin.2.1 26 = .ok (.aload_n 0, 1) := by decide +kernel
theorem dX11_begin_27 : decode mX11_begin.2.1 27 = .ok (.getfield 34, 3) := by decide +kernel
theorem dX11_begin_30 : decode mX11_begin.2.1 30 = .ok (.getfield 117, 3) := by decide +kernel
theorem dX11_begin_33 : decode mX11_begin.2.1 33 = .ok (.getfield 121, 3) := by decide +kernel
theorem dX11_begin_36 : decode mX11_begin.2.1 36 = .ok (.ireturn, 1) := by decide +kernel
theorem dX11_best_0 : decode mX11_best.2.1 0 = .ok (.iload_n 1, 1) := by decide +kernel
theorem dX11_best_1 : decode mX11_best.2.1 1 = .ok (.ifCond .lt 19, 3) := by decide +kernel
theorem dX11_best_4 : decode mX11_best.2.1 4 = .ok (.iload_n 1, 1) := by decide +kernel
theorem dX11_best_5 : decode mX11_best.2.1 5 = .ok (.iconst 1, 1) := by decide +kernel
theorem dX11_best_6 : decode mX11_best.2.1 6 = .ok (.if_icmp .gt 14, 3) := by decide +kernel
theorem dX11_best_9 : decode mX11_best.2.1 9 = .ok (.aload_n 0, 1) := by decide +kernel
theorem dX11_best_10 : decode mX11_best.2.1 10 = .ok (.getfield 34, 3) := by decide +kernel
theorem dX11_best_13 : decode mX11_best.2.1 13 = .ok (.getfield 126, 3) := by decide +kernel
theorem dX11_best_16 : decode mX11_best.2.1 16 = .ok (.iconst 2, 1) := by decide +kernel
theorem dX11_best_17 : decode mX11_best.2.1 17 = .ok (.if_icmp .eq 5, 3) := by decide +kernel
theorem dX11_best_20 : decode mX11_best.2.1 20 = .ok (.iconst (-1), 1) := by decide +kernel
theorem dX11_best_21 : decode mX11_best.2.1 21 = .ok (.ireturn, 1) := by decide +kernel
theorem dX11_best_22 : decode mX11_best.2.1 22 = .ok (.aload_n 0, 1) := by decide +kernel
theorem dX11_best_23 : decode mX11_best.2.1 23 = .ok (.getfield 76, 3) := by decide +kernel
theorem dX11_best_26 : decode mX11_best.2.1 26 = .ok (.aload_n 0, 1) := by decide +kernel
theorem dX11_best_27 : decode mX11_best.2.1 27 = .ok (.getfield 34, 3) := by decide +kernel
theorem dX11_best_30 : decode mX11_best.2.1 30 = .ok (.aload_n 0, 1) := by decide +kernel
theorem dX11_best_31 : decode mX11_best.2.1 31 = .ok (.getfield 20, 3) := by decide +kernel
theorem dX11_best_34 : decode mX11_best.2.1 34 = .ok (.iload_n 1, 1) := by decide +kernel
theorem dX11_best_35 : decode mX11_best.2.1 35 = .ok (.invokevirtual 302, 3) := by decide +kernel
theorem dX11_best_38 : decode mX11_best.2.1 38 = .ok (.ireturn, 1) := by decide +kernel
theorem dX11_block_0 : decode mX11_block.2.1 0 = .ok (.aload_n 0, 1) := by decide +kernel
theorem dX11_block_1 : decode mX11_block.2.1 1 = .ok (.getfield 34, 3) := by decide +kernel
theorem dX11_block_4 : decode mX11_block.2.1 4 = .ok (.iload_n 1, 1) := by decide +kernel
theorem dX11_block_5 : decode mX11_block.2.1 5 = .ok (.invokevirtual 204, 3) := by decide +kernel
theorem dX11_block_8 : decode mX11_block.2.1 8 = .ok (.ifCond .ne 5, 3) := by decide +kernel
theorem dX11_block_11 : decode mX11_block.2.1 11 = .ok (.iconst (-1), 1) := by decide +kernel
theorem dX11_block_12 : decode mX11_block.2.1 12 = .ok (.ireturn, 1) := by decide +kernel
theorem dX11_block_13 : decode mX11_block.2.1 13 = .ok (.aload_n 0, 1) := by decide +kernel
theorem dX11_block_14 : decode mX11_block.2.1 14 = .ok (.getfield 20, 3) := by decide +kernel
theorem dX11_block_17 : decode mX11_block.2.1 17 = .ok (.iconst 5, 1) := by decide +kernel
theorem dX11_block_18 : decode mX11_block.2.1 18 = .ok (.invokevirtual 105, 3) := by decide +kernel
theorem dX11_block_21 : decode mX11_block.2.1 21 = .ok (.iload_n 1, 1) := by decide +kernel
theorem dX11_block_22 : decode mX11_block.2.1 22 = .ok (.ishl, 1) := by decide +kernel
theorem dX11_block_23 : decode mX11_block.2.1 23 = .ok (.istore 4, 2) := by decide +kernel
theorem dX11_block_25 : decode mX11_block.2.1 25 = .ok (.iload_n 2, 1) := by decide +kernel
theorem dX11_block_26 : decode mX11_block.2.1 26 = .ok (.ifCond .lt 22, 3) := by decide +kernel
theorem dX11_block_29 : decode mX11_block.2.1 29 = .ok (.iload_n 2, 1) := by decide +kernel
theorem dX11_block_30 : decode mX11_block.2.1 30 = .ok (.aload_n 0, 1) := by decide +kernel
theorem dX11_block_31 : decode mX11_block.2.1 31 = .ok (.getfield 34, 3) := by decide +kernel
theorem dX11_block_34 : decode mX11_block.2.1 34 = .ok (.getfield 117, 3) := by decide +kernel
theorem dX11_block_37 : decode mX11_block.2.1 37 = .ok (.getfield 121, 3) := by decide +kernel
theorem dX11_block_40 : decode mX11_block.2.1 40 = .ok (.iload 4, 2) := by decide +kernel
theorem dX11_block_42 : decode mX11_block.2.1 42 = .ok (.invokestatic 235, 3) := by decide +kernel
theorem dX11_block_45 : decode mX11_block.2.1 45 = .ok (.if_icmp .lt 5, 3) := by decide +kernel
theorem dX11_block_48 : decode mX11_block.2.1 48 = .ok (.iconst (-1), 1) := by decide +kernel
theorem dX11_block_49 : decode mX11_block.2.1 49 = .ok (.ireturn, 1) := by decide +kernel
theorem dX11_block_50 : decode mX11_block.2.1 50 = .ok (.iload_n 2, 1) := by decide +kernel
theorem dX11_block_51 : decode mX11_block.2.1 51 = .ok (.iload 4, 2) := by decide +kernel
theorem dX11_block_53 : decode mX11_block.2.1 53 = .ok (.imul, 1) := by decide +kernel
theorem dX11_block_54 : decode mX11_block.2.1 54 = .ok (.istore 5, 2) := by decide +kernel
theorem dX11_block_56 : decode mX11_block.2.1 56 = .ok (.aload_n 0, 1) := by decide +kernel
theorem dX11_block_57 : decode mX11_block.2.1 57 = .ok (.getfield 34, 3) := by decide +kernel
theorem dX11_block_60 : decode mX11_block.2.1 60 = .ok (.getfield 117, 3) := by decide +kernel
theorem dX11_block_63 : decode mX11_block.2.1 63 = .ok (.getfield 121, 3) := by decide +kernel
theorem dX11_block_66 : decode mX11_block.2.1 66 = .ok (.iload 4, 2) := by decide +kernel
theorem dX11_block_68 : decode mX11_block.2.1 68 = .ok (.iload_n 2, 1) := by decide +kernel
theorem dX11_block_69 : decode mX11_block.2.1 69 = .ok (.invokestatic 238, 3) := by decide +kernel
theorem dX11_block_72 : decode mX11_block.2.1 72 = .ok (.istore 6, 2) := by decide +kernel
theorem dX11_block_74 : decode mX11_block.2.1 74 = .ok (.iload_n 3, 1) := by decide +kernel
theorem dX11_block_75 : decode mX11_block.2.1 75 = .ok (.tableswitch 44 0 2 #[25, 28, 31], 25) := by decide +kernel
theorem dX11_block_100 : decode mX11_block.2.1 100 = .ok (.iload 5, 2) := by decide +kernel
theorem dX11_block_102 : decode mX11_block.2.1 102 = .ok (.ireturn, 1) := by decide +kernel
theorem dX11_block_103 : decode mX11_block.2.1 103 = .ok (.iload 6, 2) := by decide +kernel
theorem dX11_block_105 : decode mX11_block.2.1 105 = .ok (.ireturn, 1) := by decide +kernel
theorem dX11_block_106 : decode mX11_block.2.1 106 = .ok (.aload_n 0, 1) := by decide +kernel
theorem dX11_block_107 : decode mX11_block.2.1 107 = .ok (.getfield 34, 3) := by decide +kernel
theorem dX11_block_110 : decode mX11_block.2.1 110 = .ok (.iload_n 1, 1) := by decide +kernel
theorem dX11_block_111 : decode mX11_block.2.1 111 = .ok (.iload 5, 2) := by decide +kernel
theorem dX11_block_113 : decode mX11_block.2.1 113 = .ok (.iload 6, 2) := by decide +kernel
theorem dX11_block_115 : decode mX11_block.2.1 115 = .ok (.invokevirtual 242, 3) := by decide +kernel
theorem dX11_block_118 : decode mX11_block.2.1 118 = .ok (.ireturn, 1) := by decide +kernel
theorem dX11_block_119 : decode mX11_block.2.1 119 = .ok (.iconst (-1), 1) := by decide +kernel
theorem dX11_block_120 : decode mX11_block.2.1 120 = .ok (.ireturn, 1) := by decide +kernel
theorem dX11_blocksOf_0 : decode mX11_blocksOf.2.1 0 = .ok (.iload_n 1, 1) := by decide +kernel
theorem dX11_blocksOf_1 : decode mX11_blocksOf.2.1 1 = .ok (.ifCond .le 13, 3) := by decide +kernel
theorem dX11_blocksOf_4 : decode mX11_blocksOf.2.1 4 = .ok (.iload_n 0, 1) := by decide +kernel
theorem dX11_blocksOf_5 : decode mX11_blocksOf.2.1 5 = .ok (.iload_n 1, 1) := by decide +kernel
theorem dX11_blocksOf_6 : decode mX11_blocksOf.2.1 6 = .ok (.iadd, 1) := by decide +kernel
theorem dX11_blocksOf_7 : decode mX11_blocksOf.2.1 7 = .ok (.iconst 1, 1) := by decide +kernel
theorem dX11_blocksOf_8 : decode mX11_blocksOf.2.1 8 = .ok (.isub, 1) := by decide +kernel
theorem dX11_blocksOf_9 : decode mX11_blocksOf.2.1 9 = .ok (.iload_n 1, 1) := by decide +kernel
theorem dX11_blocksOf_10 : decode mX11_blocksOf.2.1 10 = .ok (.idiv, 1) := by decide +kernel
theorem dX11_blocksOf_11 : decode mX11_blocksOf.2.1 11 = .ok (.goto 4, 3) := by decide +kernel
theorem dX11_blocksOf_14 : decode mX11_blocksOf.2.1 14 = .ok (.iconst 0, 1) := by decide +kernel
theorem dX11_blocksOf_15 : decode mX11_blocksOf.2.1 15 = .ok (.ireturn, 1) := by decide +kernel
theorem dX11_check_0 : decode mX11_check.2.1 0 = .ok (.aload_n 0, 1) := by decide +kernel
theorem dX11_check_1 : decode mX11_check.2.1 1 = .ok (.invokevirtual 135, 3) := by decide +kernel
theorem dX11_check_4 : decode mX11_check.2.1 4 = .ok (.ifCond .ne 5, 3) := by decide +kernel
theorem dX11_check_7 : decode mX11_check.2.1 7 = .ok (.iconst (-1), 1) := by decide +kernel
theorem dX11_check_8 : decode mX11_check.2.1 8 = .ok (.ireturn, 1) := by decide +kernel
theorem dX11_check_9 : decode mX11_check.2.1 9 = .ok (.aload_n 0, 1) := by decide +kernel
theorem dX11_check_10 : decode mX11_check.2.1 10 = .ok (.getfield 41, 3) := by decide +kernel
theorem dX11_check_13 : decode mX11_check.2.1 13 = .ok (.aload_n 0, 1) := by decide +kernel
theorem dX11_check_14 : decode mX11_check.2.1 14 = .ok (.getfield 34, 3) := by decide +kernel
theorem dX11_check_17 : decode mX11_check.2.1 17 = .ok (.invokevirtual 109, 3) := by decide +kernel
theorem dX11_check_20 : decode mX11_check.2.1 20 = .ok (.aload_n 0, 1) := by decide +kernel
theorem dX11_check_21 : decode mX11_check.2.1 21 = .ok (.getfield 62, 3) := by decide +kernel
theorem dX11_check_24 : decode mX11_check.2.1 24 = .ok (.aload_n 0, 1) := by decide +kernel
theorem dX11_check_25 : decode mX11_check.2.1 25 = .ok (.getfield 34, 3) := by decide +kernel
theorem dX11_check_28 : decode mX11_check.2.1 28 = .ok (.aload_n 0, 1) := by decide +kernel
theorem dX11_check_29 : decode mX11_check.2.1 29 = .ok (.getfield 20, 3) := by decide +kernel
theorem dX11_check_32 : decode mX11_check.2.1 32 = .ok (.invokevirtual 153, 3) := by decide +kernel
theorem dX11_check_35 : decode mX11_check.2.1 35 = .ok (.aload_n 0, 1) := by decide +kernel
theorem dX11_check_36 : decode mX11_check.2.1 36 = .ok (.getfield 34, 3) := by decide +kernel
theorem dX11_check_39 : decode mX11_check.2.1 39 = .ok (.getfield 126, 3) := by decide +kernel
theorem dX11_check_42 : decode mX11_check.2.1 42 = .ok (.iconst 4, 1) := by decide +kernel
theorem dX11_check_43 : decode mX11_check.2.1 43 = .ok (.if_icmp .ne 7, 3) := by decide +kernel
theorem dX11_check_46 : decode mX11_check.2.1 46 = .ok (.iconst 1, 1) := by decide +kernel
theorem dX11_check_47 : decode mX11_check.2.1 47 = .ok (.goto 4, 3) := by decide +kernel
theorem dX11_check_50 : decode mX11_check.2.1 50 = .ok (.iconst 0, 1) := by decide +kernel
theorem dX11_check_51 : decode mX11_check.2.1 51 = .ok (.ireturn, 1) := by decide +kernel
theorem dX11_count_0 : decode mX11_count.2.1 0 = .ok (.iload_n 1, 1) := by decide +kernel
theorem dX11_count_1 : decode mX11_count.2.1 1 = .ok (.tableswitch 237 0 16 #[83, 91, 102, 113, 121, 132, 140, 148, 159, 167, 175, 183, 191, 196, 204, 215, 226], 83) := by decide +kernel
theorem dX11_count_84 : decode mX11_count.2.1 84 = .ok (.aload_n 0, 1) := by decide +kernel
theorem dX11_count_85 : decode mX11_count.2.1 85 = .ok (.getfield 34, 3) := by decide +kernel
theorem dX11_count_88 : decode mX11_count.2.1 88 = .ok (.getfield 126, 3) := by decide +kernel
theorem dX11_count_91 : decode mX11_count.2.1 91 = .ok (.ireturn, 1) := by decide +kernel
theorem dX11_count_92 : decode mX11_count.2.1 92 = .ok (.aload_n 0, 1) := by decide +kernel
theorem dX11_count_93 : decode mX11_count.2.1 93 = .ok (.getfield 34, 3) := by decide +kernel
theorem dX11_count_96 : decode mX11_count.2.1 96 = .ok (.getfield 117, 3) := by decide +kernel
theorem dX11_count_99 : decode mX11_count.2.1 99 = .ok (.getfield 121, 3) := by decide +kernel
theorem dX11_count_102 : decode mX11_count.2.1 102 = .ok (.ireturn, 1) := by decide +kernel
theorem dX11_count_103 : decode mX11_count.2.1 103 = .ok (.aload_n 0, 1) := by decide +kernel
theorem dX11_count_104 : decode mX11_count.2.1 104 = .ok (.getfield 34, 3) := by decide +kernel
theorem dX11_count_107 : decode mX11_count.2.1 107 = .ok (.getfield 117, 3) := by decide +kernel
theorem dX11_count_110 : decode mX11_count.2.1 110 = .ok (.invokevirtual 182, 3) := by decide +kernel
theorem dX11_count_113 : decode mX11_count.2.1 113 = .ok (.ireturn, 1) := by decide +kernel
theorem dX11_count_114 : decode mX11_count.2.1 114 = .ok (.aload_n 0, 1) := by decide +kernel
theorem dX11_count_115 : decode mX11_count.2.1 115 = .ok (.getfield 34, 3) := by decide +kernel
theorem dX11_count_118 : decode mX11_count.2.1 118 = .ok (.getfield 139, 3) := by decide +kernel
theorem dX11_count_121 : decode mX11_count.2.1 121 = .ok (.ireturn, 1) := by decide +kernel
theorem dX11_count_122 : decode mX11_count.2.1 122 = .ok (.aload_n 0, 1) := by decide +kernel
theorem dX11_count_123 : decode mX11_count.2.1 123 = .ok (.getfield 34, 3) := by decide +kernel
theorem dX11_count_126 : decode mX11_count.2.1 126 = .ok (.getfield 210, 3) := by decide +kernel
theorem dX11_count_129 : decode mX11_count.2.1 129 = .ok (.getfield 245, 3) := by decide +kernel
theorem dX11_count_132 : decode mX11_count.2.1 132 = .ok (.ireturn, 1) := by decide +kernel
theorem dX11_count_133 : decode mX11_count.2.1 133 = .ok (.aload_n 0, 1) := by decide +kernel
theorem dX11_count_134 : decode mX11_count.2.1 134 = .ok (.getfield 34, 3) := by decide +kernel
theorem dX11_count_137 : decode mX11_count.2.1 137 = .ok (.getfield 132, 3) := by decide +kernel
theorem dX11_count_140 : decode mX11_count.2.1 140 = .ok (.ireturn, 1) := by decide +kernel
theorem dX11_count_141 : decode mX11_count.2.1 141 = .ok (.aload_n 0, 1) := by decide +kernel
theorem dX11_count_142 : decode mX11_count.2.1 142 = .ok (.getfield 34, 3) := by decide +kernel
theorem dX11_count_145 : decode mX11_count.2.1 145 = .ok (.getfield 248, 3) := by decide +kernel
theorem dX11_count_148 : decode mX11_count.2.1 148 = .ok (.ireturn, 1) := by decide +kernel
theorem dX11_count_149 : decode mX11_count.2.1 149 = .ok (.aload_n 0, 1) := by decide +kernel
theorem dX11_count_150 : decode mX11_count.2.1 150 = .ok (.getfield 34, 3) := by decide +kernel
theorem dX11_count_153 : decode mX11_count.2.1 153 = .ok (.getfield 159, 3) := by decide +kernel
theorem dX11_count_156 : decode mX11_count.2.1 156 = .ok (.getfield 163, 3) := by decide +kernel
theorem dX11_count_159 : decode mX11_count.2.1 159 = .ok (.ireturn, 1) := by decide +kernel
theorem dX11_count_160 : decode mX11_count.2.1 160 = .ok (.aload_n 0, 1) := by decide +kernel
theorem dX11_count_161 : decode mX11_count.2.1 161 = .ok (.getfield 34, 3) := by decide +kernel
theorem dX11_count_164 : decode mX11_count.2.1 164 = .ok (.getfield 251, 3) := by decide +kernel
theorem dX11_count_167 : decode mX11_count.2.1 167 = .ok (.ireturn, 1) := by decide +kernel
theorem dX11_count_168 : decode mX11_count.2.1 168 = .ok (.aload_n 0, 1) := by decide +kernel
theorem dX11_count_169 : decode mX11_count.2.1 169 = .ok (.getfield 34, 3) := by decide +kernel
theorem dX11_count_172 : decode mX11_count.2.1 172 = .ok (.getfield 254, 3) := by decide +kernel
theorem dX11_count_175 : decode mX11_count.2.1 175 = .ok (.ireturn, 1) := by decide +kernel
theorem dX11_count_176 : decode mX11_count.2.1 176 = .ok (.aload_n 0, 1) := by decide +kernel
theorem dX11_count_177 : decode mX11_count.2.1 177 = .ok (.getfield 34, 3) := by decide +kernel
theorem dX11_count_180 : decode mX11_count.2.1 180 = .ok (.getfield 257, 3) := by decide +kernel
theorem dX11_count_183 : decode mX11_count.2.1 183 = .ok (.ireturn, 1) := by decide +kernel
theorem dX11_count_184 : decode mX11_count.2.1 184 = .ok (.aload_n 0, 1) := by decide +kernel
theorem dX11_count_185 : decode mX11_count.2.1 185 = .ok (.getfield 41, 3) := by decide +kernel
theorem dX11_count_188 : decode mX11_count.2.1 188 = .ok (.getfield 185, 3) := by decide +kernel
theorem dX11_count_191 : decode mX11_count.2.1 191 = .ok (.ireturn, 1) := by decide +kernel
theorem dX11_count_192 : decode mX11_count.2.1 192 = .ok (.aload_n 0, 1) := by decide +kernel
theorem dX11_count_193 : decode mX11_count.2.1 193 = .ok (.getfield 13, 3) := by decide +kernel
theorem dX11_count_196 : decode mX11_count.2.1 196 = .ok (.ireturn, 1) := by decide +kernel
theorem dX11_count_197 : decode mX11_count.2.1 197 = .ok (.aload_n 0, 1) := by decide +kernel
theorem dX11_count_198 : decode mX11_count.2.1 198 = .ok (.getfield 34, 3) := by decide +kernel
theorem dX11_count_201 : decode mX11_count.2.1 201 = .ok (.getfield 191, 3) := by decide +kernel
theorem dX11_count_204 : decode mX11_count.2.1 204 = .ok (.ireturn, 1) := by decide +kernel
theorem dX11_count_205 : decode mX11_count.2.1 205 = .ok (.aload_n 0, 1) := by decide +kernel
theorem dX11_count_206 : decode mX11_count.2.1 206 = .ok (.getfield 34, 3) := by decide +kernel
theorem dX11_count_209 : decode mX11_count.2.1 209 = .ok (.getfield 159, 3) := by decide +kernel
theorem dX11_count_212 : decode mX11_count.2.1 212 = .ok (.getfield 260, 3) := by decide +kernel
theorem dX11_count_215 : decode mX11_count.2.1 215 = .ok (.ireturn, 1) := by decide +kernel
theorem dX11_count_216 : decode mX11_count.2.1 216 = .ok (.aload_n 0, 1) := by decide +kernel
theorem dX11_count_217 : decode mX11_count.2.1 217 = .ok (.getfield 34, 3) := by decide +kernel
theorem dX11_count_220 : decode mX11_count.2.1 220 = .ok (.getfield 159, 3) := by decide +kernel
theorem dX11_count_223 : decode mX11_count.2.1 223 = .ok (.getfield 263, 3) := by decide +kernel
theorem dX11_count_226 : decode mX11_count.2.1 226 = .ok (.ireturn, 1) := by decide +kernel
theorem dX11_count_227 : decode mX11_count.2.1 227 = .ok (.aload_n 0, 1) := by decide +kernel
theorem dX11_count_228 : decode mX11_count.2.1 228 = .ok (.getfield 34, 3) := by decide +kernel
theorem dX11_count_231 : decode mX11_count.2.1 231 = .ok (.getfield 159, 3) := by decide +kernel
theorem dX11_count_234 : decode mX11_count.2.1 234 = .ok (.getfield 266, 3) := by decide +kernel
theorem dX11_count_237 : decode mX11_count.2.1 237 = .ok (.ireturn, 1) := by decide +kernel
theorem dX11_count_238 : decode mX11_count.2.1 238 = .ok (.iconst (-1), 1) := by decide +kernel
theorem dX11_count_239 : decode mX11_count.2.1 239 = .ok (.ireturn, 1) := by decide +kernel
theorem dX11_end_0 : decode mX11_end.2.1 0 = .ok (.iload_n 1, 1) := by decide +kernel
theorem dX11_end_1 : decode mX11_end.2.1 1 = .ok (.ifCond .lt 11, 3) := by decide +kernel
theorem dX11_end_4 : decode mX11_end.2.1 4 = .ok (.iload_n 1, 1) := by decide +kernel
theorem dX11_end_5 : decode mX11_end.2.1 5 = .ok (.aload_n 0, 1) := by decide +kernel
theorem dX11_end_6 : decode mX11_end.2.1 6 = .ok (.getfield 13, 3) := by decide +kernel
theorem dX11_end_9 : decode mX11_end.2.1 9 = .ok (.if_icmp .le 5, 3) := by decide +kernel
theorem dX11_end_12 : decode mX11_end.2.1 12 = .ok (.iconst (-1), 1) := by decide +kernel
theorem dX11_end_13 : decode mX11_end.2.1 13 = .ok (.ireturn, 1) := by decide +kernel
theorem dX11_end_14 : decode mX11_end.2.1 14 = .ok (.aload_n 0, 1) := by decide +kernel
theorem dX11_end_15 : decode mX11_end.2.1 15 = .ok (.iload_n 1, 1) := by decide +kernel
theorem dX11_end_16 : decode mX11_end.2.1 16 = .ok (.putfield 13, 3) := by decide +kernel
theorem dX11_end_19 : decode mX11_end.2.1 19 = .ok (.iload_n 1, 1) := by decide +kernel
theorem dX11_end_20 : decode mX11_end.2.1 20 = .ok (.ireturn, 1) := by decide +kernel
theorem dX11_feed_0 : decode mX11_feed.2.1 0 = .ok (.aload_n 0, 1) := by decide +kernel
theorem dX11_feed_1 : decode mX11_feed.2.1 1 = .ok (.getfield 13, 3) := by decide +kernel
theorem dX11_feed_4 : decode mX11_feed.2.1 4 = .ok (.sipush 180, 3) := by decide +kernel
theorem dX11_feed_7 : decode mX11_feed.2.1 7 = .ok (.if_icmp .le 5, 3) := by decide +kernel
theorem dX11_feed_10 : decode mX11_feed.2.1 10 = .ok (.iconst (-1), 1) := by decide +kernel
theorem dX11_feed_11 : decode mX11_feed.2.1 11 = .ok (.ireturn, 1) := by decide +kernel
theorem dX11_feed_12 : decode mX11_feed.2.1 12 = .ok (.aload_n 0, 1) := by decide +kernel
theorem dX11_feed_13 : decode mX11_feed.2.1 13 = .ok (.iload_n 1, 1) := by decide +kernel
theorem dX11_feed_14 : decode mX11_feed.2.1 14 = .ok (.invokevirtual 80, 3) := by decide +kernel
theorem dX11_feed_17 : decode mX11_feed.2.1 17 = .ok (.aload_n 0, 1) := by decide +kernel
theorem dX11_feed_18 : decode mX11_feed.2.1 18 = .ok (.iload_n 2, 1) := by decide +kernel
theorem dX11_feed_19 : decode mX11_feed.2.1 19 = .ok (.invokevirtual 80, 3) := by decide +kernel
theorem dX11_feed_22 : decode mX11_feed.2.1 22 = .ok (.aload_n 0, 1) := by decide +kernel
theorem dX11_feed_23 : decode mX11_feed.2.1 23 = .ok (.iload_n 3, 1) := by decide +kernel
theorem dX11_feed_24 : decode mX11_feed.2.1 24 = .ok (.invokevirtual 80, 3) := by decide +kernel
theorem dX11_feed_27 : decode mX11_feed.2.1 27 = .ok (.aload_n 0, 1) := by decide +kernel
theorem dX11_feed_28 : decode mX11_feed.2.1 28 = .ok (.iload 4, 2) := by decide +kernel
theorem dX11_feed_30 : decode mX11_feed.2.1 30 = .ok (.invokevirtual 80, 3) := by decide +kernel
theorem dX11_feed_33 : decode mX11_feed.2.1 33 = .ok (.aload_n 0, 1) := by decide +kernel
theorem dX11_feed_34 : decode mX11_feed.2.1 34 = .ok (.iload 5, 2) := by decide +kernel
theorem dX11_feed_36 : decode mX11_feed.2.1 36 = .ok (.invokevirtual 80, 3) := by decide +kernel
theorem dX11_feed_39 : decode mX11_feed.2.1 39 = .ok (.aload_n 0, 1) := by decide +kernel
theorem dX11_feed_40 : decode mX11_feed.2.1 40 = .ok (.getfield 13, 3) := by decide +kernel
theorem dX11_feed_43 : decode mX11_feed.2.1 43 = .ok (.ireturn, 1) := by decide +kernel
theorem dX11_fixed_0 : decode mX11_fixed.2.1 0 = .ok (.iload_n 1, 1) := by decide +kernel
theorem dX11_fixed_1 : decode mX11_fixed.2.1 1 = .ok (.iconst (-1), 1) := by decide +kernel
theorem dX11_fixed_2 : decode mX11_fixed.2.1 2 = .ok (.if_icmp .eq 19, 3) := by decide +kernel
theorem dX11_fixed_5 : decode mX11_fixed.2.1 5 = .ok (.aload_n 0, 1) := by decide +kernel
theorem dX11_fixed_6 : decode mX11_fixed.2.1 6 = .ok (.getfield 34, 3) := by decide +kernel
theorem dX11_fixed_9 : decode mX11_fixed.2.1 9 = .ok (.getfield 117, 3) := by decide +kernel
theorem dX11_fixed_12 : decode mX11_fixed.2.1 12 = .ok (.iload_n 1, 1) := by decide +kernel
theorem dX11_fixed_13 : decode mX11_fixed.2.1 13 = .ok (.invokevirtual 175, 3) := by decide +kernel
theorem dX11_fixed_16 : decode mX11_fixed.2.1 16 = .ok (.ifCond .ne 5, 3) := by decide +kernel
theorem dX11_fixed_19 : decode mX11_fixed.2.1 19 = .ok (.iconst (-1), 1) := by decide +kernel
theorem dX11_fixed_20 : decode mX11_fixed.2.1 20 = .ok (.ireturn, 1) := by decide +kernel
theorem dX11_fixed_21 : decode mX11_fixed.2.1 21 = .ok (.aload_n 0, 1) := by decide +kernel
theorem dX11_fixed_22 : decode mX11_fixed.2.1 22 = .ok (.getfield 69, 3) := by decide +kernel
theorem dX11_fixed_25 : decode mX11_fixed.2.1 25 = .ok (.invokevirtual 268, 3) := by decide +kernel
theorem dX11_fixed_28 : decode mX11_fixed.2.1 28 = .ok (.aload_n 0, 1) := by decide +kernel
theorem dX11_fixed_29 : decode mX11_fixed.2.1 29 = .ok (.getfield 69, 3) := by decide +kernel
theorem dX11_fixed_32 : decode mX11_fixed.2.1 32 = .ok (.aload_n 0, 1) := by decide +kernel
theorem dX11_fixed_33 : decode mX11_fixed.2.1 33 = .ok (.getfield 34, 3) := by decide +kernel
theorem dX11_fixed_36 : decode mX11_fixed.2.1 36 = .ok (.getfield 210, 3) := by decide +kernel
theorem dX11_fixed_39 : decode mX11_fixed.2.1 39 = .ok (.invokevirtual 269, 3) := by decide +kernel
theorem dX11_fixed_42 : decode mX11_fixed.2.1 42 = .ok (.iload_n 1, 1) := by decide +kernel
theorem dX11_fixed_43 : decode mX11_fixed.2.1 43 = .ok (.iconst (-1), 1) := by decide +kernel
theorem dX11_fixed_44 : decode mX11_fixed.2.1 44 = .ok (.if_icmp .eq 20, 3) := by decide +kernel
theorem dX11_fixed_47 : decode mX11_fixed.2.1 47 = .ok (.aload_n 0, 1) := by decide +kernel
theorem dX11_fixed_48 : decode mX11_fixed.2.1 48 = .ok (.getfield 69, 3) := by decide +kernel
theorem dX11_fixed_51 : decode mX11_fixed.2.1 51 = .ok (.iload_n 1, 1) := by decide +kernel
theorem dX11_fixed_52 : decode mX11_fixed.2.1 52 = .ok (.invokevirtual 274, 3) := by decide +kernel
theorem dX11_fixed_55 : decode mX11_fixed.2.1 55 = .ok (.ifCond .eq 7, 3) := by decide +kernel
theorem dX11_fixed_58 : decode mX11_fixed.2.1 58 = .ok (.iconst 1, 1) := by decide +kernel
theorem dX11_fixed_59 : decode mX11_fixed.2.1 59 = .ok (.goto 4, 3) := by decide +kernel
theorem dX11_fixed_62 : decode mX11_fixed.2.1 62 = .ok (.iconst 0, 1) := by decide +kernel
theorem dX11_fixed_63 : decode mX11_fixed.2.1 63 = .ok (.ireturn, 1) := by decide +kernel
theorem dX11_fixed_64 : decode mX11_fixed.2.1 64 = .ok (.iconst 0, 1) := by decide +kernel
theorem dX11_fixed_65 : decode mX11_fixed.2.1 65 = .ok (.istore_n 2, 1) := by decide +kernel
theorem dX11_fixed_66 : decode mX11_fixed.2.1 66 = .ok (.iconst 0, 1) := by decide +kernel
theorem dX11_fixed_67 : decode mX11_fixed.2.1 67 = .ok (.istore_n 3, 1) := by decide +kernel
theorem dX11_fixed_68 : decode mX11_fixed.2.1 68 = .ok (.iload_n 3, 1) := by decide +kernel
theorem dX11_fixed_69 : decode mX11_fixed.2.1 69 = .ok (.aload_n 0, 1) := by decide +kernel
theorem dX11_fixed_70 : decode mX11_fixed.2.1 70 = .ok (.getfield 34, 3) := by decide +kernel
theorem dX11_fixed_73 : decode mX11_fixed.2.1 73 = .ok (.getfield 117, 3) := by decide +kernel
theorem dX11_fixed_76 : decode mX11_fixed.2.1 76 = .ok (.getfield 121, 3) := by decide +kernel
theorem dX11_fixed_79 : decode mX11_fixed.2.1 79 = .ok (.if_icmp .ge 28, 3) := by decide +kernel
theorem dX11_fixed_82 : decode mX11_fixed.2.1 82 = .ok (.iload_n 2, 1) := by decide +kernel
theorem dX11_fixed_83 : decode mX11_fixed.2.1 83 = .ok (.aload_n 0, 1) := by decide +kernel
theorem dX11_fixed_84 : decode mX11_fixed.2.1 84 = .ok (.getfield 69, 3) := by decide +kernel
theorem dX11_fixed_87 : decode mX11_fixed.2.1 87 = .ok (.iload_n 3, 1) := by decide +kernel
theorem dX11_fixed_88 : decode mX11_fixed.2.1 88 = .ok (.invokevirtual 274, 3) := by decide +kernel
theorem dX11_fixed_91 : decode mX11_fixed.2.1 91 = .ok (.ifCond .eq 7, 3) := by decide +kernel
theorem dX11_fixed_94 : decode mX11_fixed.2.1 94 = .ok (.iconst 1, 1) := by decide +kernel
theorem dX11_fixed_95 : decode mX11_fixed.2.1 95 = .ok (.goto 4, 3) := by decide +kernel
theorem dX11_fixed_98 : decode mX11_fixed.2.1 98 = .ok (.iconst 0, 1) := by decide +kernel
theorem dX11_fixed_99 : decode mX11_fixed.2.1 99 = .ok (.iadd, 1) := by decide +kernel
theorem dX11_fixed_100 : decode mX11_fixed.2.1 100 = .ok (.istore_n 2, 1) := by decide +kernel
theorem dX11_fixed_101 : decode mX11_fixed.2.1 101 = .ok (.iinc 3 1, 3) := by decide +kernel
theorem dX11_fixed_104 : decode mX11_fixed.2.1 104 = .ok (.goto (-36), 3) := by decide +kernel
theorem dX11_fixed_107 : decode mX11_fixed.2.1 107 = .ok (.iload_n 2, 1) := by decide +kernel
theorem dX11_fixed_108 : decode mX11_fixed.2.1 108 = .ok (.ireturn, 1) := by decide +kernel
theorem dX11_image_0 : decode mX11_image.2.1 0 = .ok (.iload_n 1, 1) := by decide +kernel
theorem dX11_image_1 : decode mX11_image.2.1 1 = .ok (.ifCond .lt 8, 3) := by decide +kernel
theorem dX11_image_4 : decode mX11_image.2.1 4 = .ok (.iload_n 1, 1) := by decide +kernel
theorem dX11_image_5 : decode mX11_image.2.1 5 = .ok (.iconst 2, 1) := by decide +kernel
theorem dX11_image_6 : decode mX11_image.2.1 6 = .ok (.if_icmp .lt 5, 3) := by decide +kernel
theorem dX11_image_9 : decode mX11_image.2.1 9 = .ok (.iconst (-1), 1) := by decide +kernel
theorem dX11_image_10 : decode mX11_image.2.1 10 = .ok (.ireturn, 1) := by decide +kernel
theorem dX11_image_11 : decode mX11_image.2.1 11 = .ok (.aload_n 0, 1) := by decide +kernel
theorem dX11_image_12 : decode mX11_image.2.1 12 = .ok (.getfield 45, 3) := by decide +kernel
theorem dX11_image_15 : decode mX11_image.2.1 15 = .ok (.iload_n 1, 1) := by decide +kernel
theorem dX11_image_16 : decode mX11_image.2.1 16 = .ok (.aaload, 1) := by decide +kernel
theorem dX11_image_17 : decode mX11_image.2.1 17 = .ok (.aload_n 0, 1) := by decide +kernel
theorem dX11_image_18 : decode mX11_image.2.1 18 = .ok (.getfield 34, 3) := by decide +kernel
theorem dX11_image_21 : decode mX11_image.2.1 21 = .ok (.invokevirtual 313, 3) := by decide +kernel
theorem dX11_image_24 : decode mX11_image.2.1 24 = .ok (.aload_n 0, 1) := by decide +kernel
theorem dX11_image_25 : decode mX11_image.2.1 25 = .ok (.getfield 49, 3) := by decide +kernel
theorem dX11_image_28 : decode mX11_image.2.1 28 = .ok (.iload_n 1, 1) := by decide +kernel
theorem dX11_image_29 : decode mX11_image.2.1 29 = .ok (.iconst 1, 1) := by decide +kernel
theorem dX11_image_30 : decode mX11_image.2.1 30 = .ok (.iastore, 1) := by decide +kernel
theorem dX11_image_31 : decode mX11_image.2.1 31 = .ok (.aload_n 0, 1) := by decide +kernel
theorem dX11_image_32 : decode mX11_image.2.1 32 = .ok (.getfield 34, 3) := by decide +kernel
theorem dX11_image_35 : decode mX11_image.2.1 35 = .ok (.getfield 126, 3) := by decide +kernel
theorem dX11_image_38 : decode mX11_image.2.1 38 = .ok (.ireturn, 1) := by decide +kernel
theorem dX11_init_0 : decode mX11_init.2.1 0 = .ok (.aload_n 0, 1) := by decide +kernel
theorem dX11_init_1 : decode mX11_init.2.1 1 = .ok (.invokespecial 3, 3) := by decide +kernel
theorem dX11_init_4 : decode mX11_init.2.1 4 = .ok (.aload_n 0, 1) := by decide +kernel
theorem dX11_init_5 : decode mX11_init.2.1 5 = .ok (.sipush 200, 3) := by decide +kernel
theorem dX11_init_8 : decode mX11_init.2.1 8 = .ok (.newarray .int, 2) := by decide +kernel
theorem dX11_init_10 : decode mX11_init.2.1 10 = .ok (.putfield 9, 3) := by decide +kernel
theorem dX11_init_13 : decode mX11_init.2.1 13 = .ok (.aload_n 0, 1) := by decide +kernel
theorem dX11_init_14 : decode mX11_init.2.1 14 = .ok (.iconst 0, 1) := by decide +kernel
theorem dX11_init_15 : decode mX11_init.2.1 15 = .ok (.putfield 13, 3) := by decide +kernel
theorem dX11_init_18 : decode mX11_init.2.1 18 = .ok (.aload_n 0, 1) := by decide +kernel
theorem dX11_init_19 : decode mX11_init.2.1 19 = .ok (.new 17, 3) := by decide +kernel
theorem dX11_init_22 : decode mX11_init.2.1 22 = .ok (.dup, 1) := by decide +kernel
theorem dX11_init_23 : decode mX11_init.2.1 23 = .ok (.invokespecial 19, 3) := by decide +kernel
theorem dX11_init_26 : decode mX11_init.2.1 26 = .ok (.putfield 20, 3) := by decide +kernel
theorem dX11_init_29 : decode mX11_init.2.1 29 = .ok (.aload_n 0, 1) := by decide +kernel
theorem dX11_init_30 : decode mX11_init.2.1 30 = .ok (.new 24, 3) := by decide +kernel
theorem dX11_init_33 : decode mX11_init.2.1 33 = .ok (.dup, 1) := by decide +kernel
theorem dX11_init_34 : decode mX11_init.2.1 34 = .ok (.invokespecial 26, 3) := by decide +kernel
theorem dX11_init_37 : decode mX11_init.2.1 37 = .ok (.putfield 27, 3) := by decide +kernel
theorem dX11_init_40 : decode mX11_init.2.1 40 = .ok (.aload_n 0, 1) := by decide +kernel
theorem dX11_init_41 : decode mX11_init.2.1 41 = .ok (.new 31, 3) := by decide +kernel
theorem dX11_init_44 : decode mX11_init.2.1 44 = .ok (.dup, 1) := by decide +kernel
theorem dX11_init_45 : decode mX11_init.2.1 45 = .ok (.invokespecial 33, 3) := by decide +kernel
theorem dX11_init_48 : decode mX11_init.2.1 48 = .ok (.putfield 34, 3) := by decide +kernel
theorem dX11_init_51 : decode mX11_init.2.1 51 = .ok (.aload_n 0, 1) := by decide +kernel
theorem dX11_init_52 : decode mX11_init.2.1 52 = .ok (.new 38, 3) := by decide +kernel
theorem dX11_init_55 : decode mX11_init.2.1 55 = .ok (.dup, 1) := by decide +kernel
theorem dX11_init_56 : decode mX11_init.2.1 56 = .ok (.invokespecial 40, 3) := by decide +kernel
theorem dX11_init_59 : decode mX11_init.2.1 59 = .ok (.putfield 41, 3) := by decide +kernel
theorem dX11_init_62 : decode mX11_init.2.1 62 = .ok (.aload_n 0, 1) := by decide +kernel
theorem dX11_init_63 : decode mX11_init.2.1 63 = .ok (.iconst 2, 1) := by decide +kernel
theorem dX11_init_64 : decode mX11_init.2.1 64 = .ok (.anewarray 31, 3) := by decide +kernel
theorem dX11_init_67 : decode mX11_init.2.1 67 = .ok (.putfield 45, 3) := by decide +kernel
theorem dX11_init_70 : decode mX11_init.2.1 70 = .ok (.aload_n 0, 1) := by decide +kernel
theorem dX11_init_71 : decode mX11_init.2.1 71 = .ok (.iconst 2, 1) := by decide +kernel
theorem dX11_init_72 : decode mX11_init.2.1 72 = .ok (.newarray .int, 2) := by decide +kernel
theorem dX11_init_74 : decode mX11_init.2.1 74 = .ok (.putfield 49, 3) := by decide +kernel
theorem dX11_init_77 : decode mX11_init.2.1 77 = .ok (.aload_n 0, 1) := by decide +kernel
theorem dX11_init_78 : decode mX11_init.2.1 78 = .ok (.new 52, 3) := by decide +kernel
theorem dX11_init_81 : decode mX11_init.2.1 81 = .ok (.dup, 1) := by decide +kernel
theorem dX11_init_82 : decode mX11_init.2.1 82 = .ok (.invokespecial 54, 3) := by decide +kernel
theorem dX11_init_85 : decode mX11_init.2.1 85 = .ok (.putfield 55, 3) := by decide +kernel
theorem dX11_init_88 : decode mX11_init.2.1 88 = .ok (.aload_n 0, 1) := by decide +kernel
theorem dX11_init_89 : decode mX11_init.2.1 89 = .ok (.new 59, 3) := by decide +kernel
theorem dX11_init_92 : decode mX11_init.2.1 92 = .ok (.dup, 1) := by decide +kernel
theorem dX11_init_93 : decode mX11_init.2.1 93 = .ok (.invokespecial 61, 3) := by decide +kernel
theorem dX11_init_96 : decode mX11_init.2.1 96 = .ok (.putfield 62, 3) := by decide +kernel
theorem dX11_init_99 : decode mX11_init.2.1 99 = .ok (.aload_n 0, 1) := by decide +kernel
theorem dX11_init_100 : decode mX11_init.2.1 100 = .ok (.new 66, 3) := by decide +kernel
theorem dX11_init_103 : decode mX11_init.2.1 103 = .ok (.dup, 1) := by decide +kernel
theorem dX11_init_104 : decode mX11_init.2.1 104 = .ok (.invokespecial 68, 3) := by decide +kernel
theorem dX11_init_107 : decode mX11_init.2.1 107 = .ok (.putfield 69, 3) := by decide +kernel
theorem dX11_init_110 : decode mX11_init.2.1 110 = .ok (.aload_n 0, 1) := by decide +kernel
theorem dX11_init_111 : decode mX11_init.2.1 111 = .ok (.new 73, 3) := by decide +kernel
theorem dX11_init_114 : decode mX11_init.2.1 114 = .ok (.dup, 1) := by decide +kernel
theorem dX11_init_115 : decode mX11_init.2.1 115 = .ok (.invokespecial 75, 3) := by decide +kernel
theorem dX11_init_118 : decode mX11_init.2.1 118 = .ok (.putfield 76, 3) := by decide +kernel
theorem dX11_init_121 : decode mX11_init.2.1 121 = .ok (.iconst 0, 1) := by decide +kernel
theorem dX11_init_122 : decode mX11_init.2.1 122 = .ok (.istore_n 1, 1) := by decide +kernel
theorem dX11_init_123 : decode mX11_init.2.1 123 = .ok (.iload_n 1, 1) := by decide +kernel
theorem dX11_init_124 : decode mX11_init.2.1 124 = .ok (.iconst 2, 1) := by decide +kernel
theorem dX11_init_125 : decode mX11_init.2.1 125 = .ok (.if_icmp .ge 22, 3) := by decide +kernel
theorem dX11_init_128 : decode mX11_init.2.1 128 = .ok (.aload_n 0, 1) := by decide +kernel
theorem dX11_init_129 : decode mX11_init.2.1 129 = .ok (.getfield 45, 3) := by decide +kernel
theorem dX11_init_132 : decode mX11_init.2.1 132 = .ok (.iload_n 1, 1) := by decide +kernel
theorem dX11_init_133 : decode mX11_init.2.1 133 = .ok (.new 31, 3) := by decide +kernel
theorem dX11_init_136 : decode mX11_init.2.1 136 = .ok (.dup, 1) := by decide +kernel
theorem dX11_init_137 : decode mX11_init.2.1 137 = .ok (.invokespecial 33, 3) := by decide +kernel
theorem dX11_init_140 : decode mX11_init.2.1 140 = .ok (.aastore, 1) := by decide +kernel
theorem dX11_init_141 : decode mX11_init.2.1 141 = .ok (.iinc 1 1, 3) := by decide +kernel
theorem dX11_init_144 : decode mX11_init.2.1 144 = .ok (.goto (-21), 3) := by decide +kernel
theorem dX11_init_147 : decode mX11_init.2.1 147 = .ok (.return_, 1) := by decide +kernel
theorem dX11_isIn_0 : decode mX11_isIn.2.1 0 = .ok (.aload_n 0, 1) := by decide +kernel
theorem dX11_isIn_1 : decode mX11_isIn.2.1 1 = .ok (.getfield 34, 3) := by decide +kernel
theorem dX11_isIn_4 : decode mX11_isIn.2.1 4 = .ok (.getfield 210, 3) := by decide +kernel
theorem dX11_isIn_7 : decode mX11_isIn.2.1 7 = .ok (.iload_n 1, 1) := by decide +kernel
theorem dX11_isIn_8 : decode mX11_isIn.2.1 8 = .ok (.invokevirtual 214, 3) := by decide +kernel
theorem dX11_isIn_11 : decode mX11_isIn.2.1 11 = .ok (.ifCond .eq 17, 3) := by decide +kernel
theorem dX11_isIn_14 : decode mX11_isIn.2.1 14 = .ok (.aload_n 0, 1) := by decide +kernel
theorem dX11_isIn_15 : decode mX11_isIn.2.1 15 = .ok (.getfield 34, 3) := by decide +kernel
theorem dX11_isIn_18 : decode mX11_isIn.2.1 18 = .ok (.getfield 117, 3) := by decide +kernel
theorem dX11_isIn_21 : decode mX11_isIn.2.1 21 = .ok (.iload_n 2, 1) := by decide +kernel
theorem dX11_isIn_22 : decode mX11_isIn.2.1 22 = .ok (.invokevirtual 175, 3) := by decide +kernel
theorem dX11_isIn_25 : decode mX11_isIn.2.1 25 = .ok (.ifCond .ne 5, 3) := by decide +kernel
theorem dX11_isIn_28 : decode mX11_isIn.2.1 28 = .ok (.iconst (-1), 1) := by decide +kernel
theorem dX11_isIn_29 : decode mX11_isIn.2.1 29 = .ok (.ireturn, 1) := by decide +kernel
theorem dX11_isIn_30 : decode mX11_isIn.2.1 30 = .ok (.aload_n 0, 1) := by decide +kernel
theorem dX11_isIn_31 : decode mX11_isIn.2.1 31 = .ok (.getfield 34, 3) := by decide +kernel
theorem dX11_isIn_34 : decode mX11_isIn.2.1 34 = .ok (.getfield 210, 3) := by decide +kernel
theorem dX11_isIn_37 : decode mX11_isIn.2.1 37 = .ok (.iload_n 1, 1) := by decide +kernel
theorem dX11_isIn_38 : decode mX11_isIn.2.1 38 = .ok (.iload_n 2, 1) := by decide +kernel
theorem dX11_isIn_39 : decode mX11_isIn.2.1 39 = .ok (.invokevirtual 229, 3) := by decide +kernel
theorem dX11_isIn_42 : decode mX11_isIn.2.1 42 = .ok (.ifCond .eq 7, 3) := by decide +kernel
theorem dX11_isIn_45 : decode mX11_isIn.2.1 45 = .ok (.iconst 1, 1) := by decide +kernel
theorem dX11_isIn_46 : decode mX11_isIn.2.1 46 = .ok (.goto 4, 3) := by decide +kernel
theorem dX11_isIn_49 : decode mX11_isIn.2.1 49 = .ok (.iconst 0, 1) := by decide +kernel
theorem dX11_isIn_50 : decode mX11_isIn.2.1 50 = .ok (.ireturn, 1) := by decide +kernel
theorem dX11_isMending_0 : decode mX11_isMending.2.1 0 = .ok (.aload_n 0, 1) := by decide +kernel
theorem dX11_isMending_1 : decode mX11_isMending.2.1 1 = .ok (.getfield 34, 3) := by decide +kernel
theorem dX11_isMending_4 : decode mX11_isMending.2.1 4 = .ok (.getfield 126, 3) := by decide +kernel
theorem dX11_isMending_7 : decode mX11_isMending.2.1 7 = .ok (.iconst 2, 1) := by decide +kernel
theorem dX11_isMending_8 : decode mX11_isMending.2.1 8 = .ok (.if_icmp .eq 14, 3) := by decide +kernel
theorem dX11_isMending_11 : decode mX11_isMending.2.1 11 = .ok (.aload_n 0, 1) := by decide +kernel
theorem dX11_isMending_12 : decode mX11_isMending.2.1 12 = .ok (.getfield 34, 3) := by decide +kernel
theorem dX11_isMending_15 : decode mX11_isMending.2.1 15 = .ok (.getfield 126, 3) := by decide +kernel
theorem dX11_isMending_18 : decode mX11_isMending.2.1 18 = .ok (.iconst 3, 1) := by decide +kernel
theorem dX11_isMending_19 : decode mX11_isMending.2.1 19 = .ok (.if_icmp .ne 7, 3) := by decide +kernel
theorem dX11_isMending_22 : decode mX11_isMending.2.1 22 = .ok (.iconst 1, 1) := by decide +kernel
theorem dX11_isMending_23 : decode mX11_isMending.2.1 23 = .ok (.goto 4, 3) := by decide +kernel
theorem dX11_isMending_26 : decode mX11_isMending.2.1 26 = .ok (.iconst 0, 1) := by decide +kernel
theorem dX11_isMending_27 : decode mX11_isMending.2.1 27 = .ok (.ireturn, 1) := by decide +kernel
theorem dX11_key_0 : decode mX11_key.2.1 0 = .ok (.iload_n 1, 1) := by decide +kernel
theorem dX11_key_1 : decode mX11_key.2.1 1 = .ok (.ifCond .lt 22, 3) := by decide +kernel
theorem dX11_key_4 : decode mX11_key.2.1 4 = .ok (.iload_n 1, 1) := by decide +kernel
theorem dX11_key_5 : decode mX11_key.2.1 5 = .ok (.iconst 1, 1) := by decide +kernel
theorem dX11_key_6 : decode mX11_key.2.1 6 = .ok (.if_icmp .gt 17, 3) := by decide +kernel
theorem dX11_key_9 : decode mX11_key.2.1 9 = .ok (.aload_n 0, 1) := by decide +kernel
theorem dX11_key_10 : decode mX11_key.2.1 10 = .ok (.getfield 34, 3) := by decide +kernel
theorem dX11_key_13 : decode mX11_key.2.1 13 = .ok (.getfield 117, 3) := by decide +kernel
theorem dX11_key_16 : decode mX11_key.2.1 16 = .ok (.iload_n 2, 1) := by decide +kernel
theorem dX11_key_17 : decode mX11_key.2.1 17 = .ok (.invokevirtual 175, 3) := by decide +kernel
theorem dX11_key_20 : decode mX11_key.2.1 20 = .ok (.ifCond .ne 5, 3) := by decide +kernel
theorem dX11_key_23 : decode mX11_key.2.1 23 = .ok (.iconst (-1), 1) := by decide +kernel
theorem dX11_key_24 : decode mX11_key.2.1 24 = .ok (.ireturn, 1) := by decide +kernel
theorem dX11_key_25 : decode mX11_key.2.1 25 = .ok (.iload_n 1, 1) := by decide +kernel
theorem dX11_key_26 : decode mX11_key.2.1 26 = .ok (.ifCond .ne 18, 3) := by decide +kernel
theorem dX11_key_29 : decode mX11_key.2.1 29 = .ok (.aload_n 0, 1) := by decide +kernel
theorem dX11_key_30 : decode mX11_key.2.1 30 = .ok (.getfield 34, 3) := by decide +kernel
theorem dX11_key_33 : decode mX11_key.2.1 33 = .ok (.getfield 117, 3) := by decide +kernel
theorem dX11_key_36 : decode mX11_key.2.1 36 = .ok (.getfield 198, 3) := by decide +kernel
theorem dX11_key_39 : decode mX11_key.2.1 39 = .ok (.iload_n 2, 1) := by decide +kernel
theorem dX11_key_40 : decode mX11_key.2.1 40 = .ok (.iaload, 1) := by decide +kernel
theorem dX11_key_41 : decode mX11_key.2.1 41 = .ok (.goto 15, 3) := by decide +kernel
theorem dX11_key_44 : decode mX11_key.2.1 44 = .ok (.aload_n 0, 1) := by decide +kernel
theorem dX11_key_45 : decode mX11_key.2.1 45 = .ok (.getfield 34, 3) := by decide +kernel
theorem dX11_key_48 : decode mX11_key.2.1 48 = .ok (.getfield 117, 3) := by decide +kernel
theorem dX11_key_51 : decode mX11_key.2.1 51 = .ok (.getfield 201, 3) := by decide +kernel
theorem dX11_key_54 : decode mX11_key.2.1 54 = .ok (.iload_n 2, 1) := by decide +kernel
theorem dX11_key_55 : decode mX11_key.2.1 55 = .ok (.iaload, 1) := by decide +kernel
theorem dX11_key_56 : decode mX11_key.2.1 56 = .ok (.ireturn, 1) := by decide +kernel
theorem dX11_last_0 : decode mX11_last.2.1 0 = .ok (.iload_n 1, 1) := by decide +kernel
theorem dX11_last_1 : decode mX11_last.2.1 1 = .ok (.ifCond .lt 26, 3) := by decide +kernel
theorem dX11_last_4 : decode mX11_last.2.1 4 = .ok (.iload_n 1, 1) := by decide +kernel
theorem dX11_last_5 : decode mX11_last.2.1 5 = .ok (.iconst 1, 1) := by decide +kernel
theorem dX11_last_6 : decode mX11_last.2.1 6 = .ok (.if_icmp .gt 21, 3) := by decide +kernel
theorem dX11_last_9 : decode mX11_last.2.1 9 = .ok (.iload_n 2, 1) := by decide +kernel
theorem dX11_last_10 : decode mX11_last.2.1 10 = .ok (.ifCond .lt 17, 3) := by decide +kernel
theorem dX11_last_13 : decode mX11_last.2.1 13 = .ok (.iload_n 2, 1) := by decide +kernel
theorem dX11_last_14 : decode mX11_last.2.1 14 = .ok (.aload_n 0, 1) := by decide +kernel
theorem dX11_last_15 : decode mX11_last.2.1 15 = .ok (.getfield 34, 3) := by decide +kernel
theorem dX11_last_18 : decode mX11_last.2.1 18 = .ok (.getfield 159, 3) := by decide +kernel
theorem dX11_last_21 : decode mX11_last.2.1 21 = .ok (.getfield 163, 3) := by decide +kernel
theorem dX11_last_24 : decode mX11_last.2.1 24 = .ok (.if_icmp .lt 5, 3) := by decide +kernel
theorem dX11_last_27 : decode mX11_last.2.1 27 = .ok (.iconst (-1), 1) := by decide +kernel
theorem dX11_last_28 : decode mX11_last.2.1 28 = .ok (.ireturn, 1) := by decide +kernel
theorem dX11_last_29 : decode mX11_last.2.1 29 = .ok (.iload_n 1, 1) := by decide +kernel
theorem dX11_last_30 : decode mX11_last.2.1 30 = .ok (.ifCond .ne 18, 3) := by decide +kernel
theorem dX11_last_33 : decode mX11_last.2.1 33 = .ok (.aload_n 0, 1) := by decide +kernel
theorem dX11_last_34 : decode mX11_last.2.1 34 = .ok (.getfield 34, 3) := by decide +kernel
theorem dX11_last_37 : decode mX11_last.2.1 37 = .ok (.getfield 159, 3) := by decide +kernel
theorem dX11_last_40 : decode mX11_last.2.1 40 = .ok (.getfield 233, 3) := by decide +kernel
theorem dX11_last_43 : decode mX11_last.2.1 43 = .ok (.iload_n 2, 1) := by decide +kernel
theorem dX11_last_44 : decode mX11_last.2.1 44 = .ok (.iaload, 1) := by decide +kernel
theorem dX11_last_45 : decode mX11_last.2.1 45 = .ok (.goto 15, 3) := by decide +kernel
theorem dX11_last_48 : decode mX11_last.2.1 48 = .ok (.aload_n 0, 1) := by decide +kernel
theorem dX11_last_49 : decode mX11_last.2.1 49 = .ok (.getfield 34, 3) := by decide +kernel
theorem dX11_last_52 : decode mX11_last.2.1 52 = .ok (.getfield 159, 3) := by decide +kernel
theorem dX11_last_55 : decode mX11_last.2.1 55 = .ok (.getfield 234, 3) := by decide +kernel
theorem dX11_last_58 : decode mX11_last.2.1 58 = .ok (.iload_n 2, 1) := by decide +kernel
theorem dX11_last_59 : decode mX11_last.2.1 59 = .ok (.iaload, 1) := by decide +kernel
theorem dX11_last_60 : decode mX11_last.2.1 60 = .ok (.ireturn, 1) := by decide +kernel
theorem dX11_ledger_0 : decode mX11_ledger.2.1 0 = .ok (.aload_n 0, 1) := by decide +kernel
theorem dX11_ledger_1 : decode mX11_ledger.2.1 1 = .ok (.getfield 34, 3) := by decide +kernel
theorem dX11_ledger_4 : decode mX11_ledger.2.1 4 = .ok (.getfield 210, 3) := by decide +kernel
theorem dX11_ledger_7 : decode mX11_ledger.2.1 7 = .ok (.iload_n 1, 1) := by decide +kernel
theorem dX11_ledger_8 : decode mX11_ledger.2.1 8 = .ok (.invokevirtual 214, 3) := by decide +kernel
theorem dX11_ledger_11 : decode mX11_ledger.2.1 11 = .ok (.ifCond .ne 5, 3) := by decide +kernel
