theorem d_String_indexOf_0 : decode prog_18_method_79_code 0 = .ok (.aload_n 0, 1) := by decide +kernel
theorem d_String_indexOf_1 : decode prog_18_method_79_code 1 = .ok (.iload_n 1, 1) := by decide +kernel
theorem d_String_indexOf_2 : decode prog_18_method_79_code 2 = .ok (.iconst 0, 1) := by decide +kernel
theorem d_String_indexOf_3 : decode prog_18_method_79_code 3 = .ok (.invokevirtual 633, 3) := by decide +kernel
theorem d_String_indexOf_6 : decode prog_18_method_79_code 6 = .ok (.ireturn, 1) := by decide +kernel
theorem d_String_indexOf2_0 : decode prog_18_method_80_code 0 = .ok (.aload_n 0, 1) := by decide +kernel
theorem d_String_indexOf2_1 : decode prog_18_method_80_code 1 = .ok (.invokevirtual 492, 3) := by decide +kernel
theorem d_String_indexOf2_4 : decode prog_18_method_80_code 4 = .ok (.ifCond .eq 19, 3) := by decide +kernel
theorem d_String_indexOf2_7 : decode prog_18_method_80_code 7 = .ok (.aload_n 0, 1) := by decide +kernel
theorem d_String_indexOf2_8 : decode prog_18_method_80_code 8 = .ok (.getfield 9, 3) := by decide +kernel
theorem d_String_indexOf2_11 : decode prog_18_method_80_code 11 = .ok (.iload_n 1, 1) := by decide +kernel
theorem d_String_indexOf2_12 : decode prog_18_method_80_code 12 = .ok (.iload_n 2, 1) := by decide +kernel
theorem d_String_indexOf2_13 : decode prog_18_method_80_code 13 = .ok (.aload_n 0, 1) := by decide +kernel
theorem d_String_indexOf2_14 : decode prog_18_method_80_code 14 = .ok (.invokevirtual 505, 3) := by decide +kernel
theorem d_String_indexOf2_17 : decode prog_18_method_80_code 17 = .ok (.invokestatic 637, 3) := by decide +kernel
theorem d_String_indexOf2_20 : decode prog_18_method_80_code 20 = .ok (.goto 16, 3) := by decide +kernel
theorem d_String_indexOf2_23 : decode prog_18_method_80_code 23 = .ok (.aload_n 0, 1) := by decide +kernel
theorem d_String_indexOf2_24 : decode prog_18_method_80_code 24 = .ok (.getfield 9, 3) := by decide +kernel
theorem d_String_indexOf2_27 : decode prog_18_method_80_code 27 = .ok (.iload_n 1, 1) := by decide +kernel
theorem d_String_indexOf2_28 : decode prog_18_method_80_code 28 = .ok (.iload_n 2, 1) := by decide +kernel
theorem d_String_indexOf2_29 : decode prog_18_method_80_code 29 = .ok (.aload_n 0, 1) := by decide +kernel
theorem d_String_indexOf2_30 : decode prog_18_method_80_code 30 = .ok (.invokevirtual 505, 3) := by decide +kernel
theorem d_String_indexOf2_33 : decode prog_18_method_80_code 33 = .ok (.invokestatic 640, 3) := by decide +kernel
theorem d_String_indexOf2_36 : decode prog_18_method_80_code 36 = .ok (.ireturn, 1) := by decide +kernel
theorem d_String_isLatin1_0 : decode prog_18_method_154_code 0 = .ok (.getstatic 38, 3) := by decide +kernel
theorem d_String_isLatin1_3 : decode prog_18_method_154_code 3 = .ok (.ifCond .eq 14, 3) := by decide +kernel
theorem d_String_isLatin1_6 : decode prog_18_method_154_code 6 = .ok (.aload_n 0, 1) := by decide +kernel
theorem d_String_isLatin1_7 : decode prog_18_method_154_code 7 = .ok (.getfield 15, 3) := by decide +kernel
theorem d_String_isLatin1_10 : decode prog_18_method_154_code 10 = .ok (.ifCond .ne 7, 3) := by decide +kernel
theorem d_String_isLatin1_13 : decode prog_18_method_154_code 13 = .ok (.iconst 1, 1) := by decide +kernel
theorem d_String_isLatin1_14 : decode prog_18_method_154_code 14 = .ok (.goto 4, 3) := by decide +kernel
theorem d_String_isLatin1_17 : decode prog_18_method_154_code 17 = .ok (.iconst 0, 1) := by decide +kernel
theorem d_String_isLatin1_18 : decode prog_18_method_154_code 18 = .ok (.ireturn, 1) := by decide +kernel
theorem d_String_length_0 : decode prog_18_method_54_code 0 = .ok (.aload_n 0, 1) := by decide +kernel
theorem d_String_length_1 : decode prog_18_method_54_code 1 = .ok (.getfield 9, 3) := by decide +kernel
theorem d_String_length_4 : decode prog_18_method_54_code 4 = .ok (.arraylength, 1) := by decide +kernel
theorem d_String_length_5 : decode prog_18_method_54_code 5 = .ok (.aload_n 0, 1) := by decide +kernel
theorem d_String_length_6 : decode prog_18_method_54_code 6 = .ok (.invokevirtual 335, 3) := by decide +kernel
theorem d_String_length_9 : decode prog_18_method_54_code 9 = .ok (.ishr, 1) := by decide +kernel
theorem d_String_length_10 : decode prog_18_method_54_code 10 = .ok (.ireturn, 1) := by decide +kernel
theorem d_String_coder_0 : decode prog_18_method_152_code 0 = .ok (.getstatic 38, 3) := by decide +kernel
theorem d_String_coder_3 : decode prog_18_method_152_code 3 = .ok (.ifCond .eq 10, 3) := by decide +kernel
theorem d_String_coder_6 : decode prog_18_method_152_code 6 = .ok (.aload_n 0, 1) := by decide +kernel
theorem d_String_coder_7 : decode prog_18_method_152_code 7 = .ok (.getfield 15, 3) := by decide +kernel
theorem d_String_coder_10 : decode prog_18_method_152_code 10 = .ok (.goto 4, 3) := by decide +kernel
theorem d_String_coder_13 : decode prog_18_method_152_code 13 = .ok (.iconst 1, 1) := by decide +kernel
theorem d_String_coder_14 : decode prog_18_method_152_code 14 = .ok (.ireturn, 1) := by decide +kernel
theorem d_StringLatin1_indexOf_0 : decode prog_19_method_22_code 0 = .ok (.iload_n 1, 1) := by decide +kernel
theorem d_StringLatin1_indexOf_1 : decode prog_19_method_22_code 1 = .ok (.invokestatic 88, 3) := by decide +kernel
theorem d_StringLatin1_indexOf_4 : decode prog_19_method_22_code 4 = .ok (.ifCond .ne 5, 3) := by decide +kernel
theorem d_StringLatin1_indexOf_7 : decode prog_19_method_22_code 7 = .ok (.iconst (-1), 1) := by decide +kernel
theorem d_StringLatin1_indexOf_8 : decode prog_19_method_22_code 8 = .ok (.ireturn, 1) := by decide +kernel
theorem d_StringLatin1_indexOf_9 : decode prog_19_method_22_code 9 = .ok (.iload_n 2, 1) := by decide +kernel
theorem d_StringLatin1_indexOf_10 : decode prog_19_method_22_code 10 = .ok (.iconst 0, 1) := by decide +kernel
theorem d_StringLatin1_indexOf_11 : decode prog_19_method_22_code 11 = .ok (.invokestatic 92, 3) := by decide +kernel
theorem d_StringLatin1_indexOf_14 : decode prog_19_method_22_code 14 = .ok (.istore_n 2, 1) := by decide +kernel
theorem d_StringLatin1_indexOf_15 : decode prog_19_method_22_code 15 = .ok (.iload_n 3, 1) := by decide +kernel
theorem d_StringLatin1_indexOf_16 : decode prog_19_method_22_code 16 = .ok (.aload_n 0, 1) := by decide +kernel
theorem d_StringLatin1_indexOf_17 : decode prog_19_method_22_code 17 = .ok (.arraylength, 1) := by decide +kernel
theorem d_StringLatin1_indexOf_18 : decode prog_19_method_22_code 18 = .ok (.invokestatic 38, 3) := by decide +kernel
theorem d_StringLatin1_indexOf_21 : decode prog_19_method_22_code 21 = .ok (.istore_n 3, 1) := by decide +kernel
theorem d_StringLatin1_indexOf_22 : decode prog_19_method_22_code 22 = .ok (.iload_n 2, 1) := by decide +kernel
theorem d_StringLatin1_indexOf_23 : decode prog_19_method_22_code 23 = .ok (.iload_n 3, 1) := by decide +kernel
theorem d_StringLatin1_indexOf_24 : decode prog_19_method_22_code 24 = .ok (.if_icmp .lt 5, 3) := by decide +kernel
theorem d_StringLatin1_indexOf_27 : decode prog_19_method_22_code 27 = .ok (.iconst (-1), 1) := by decide +kernel
theorem d_StringLatin1_indexOf_28 : decode prog_19_method_22_code 28 = .ok (.ireturn, 1) := by decide +kernel
theorem d_StringLatin1_indexOf_29 : decode prog_19_method_22_code 29 = .ok (.aload_n 0, 1) := by decide +kernel
theorem d_StringLatin1_indexOf_30 : decode prog_19_method_22_code 30 = .ok (.iload_n 1, 1) := by decide +kernel
theorem d_StringLatin1_indexOf_31 : decode prog_19_method_22_code 31 = .ok (.iload_n 2, 1) := by decide +kernel
theorem d_StringLatin1_indexOf_32 : decode prog_19_method_22_code 32 = .ok (.iload_n 3, 1) := by decide +kernel
theorem d_StringLatin1_indexOf_33 : decode prog_19_method_22_code 33 = .ok (.invokestatic 95, 3) := by decide +kernel
theorem d_StringLatin1_indexOf_36 : decode prog_19_method_22_code 36 = .ok (.ireturn, 1) := by decide +kernel
theorem d_StringLatin1_canEncode_0 : decode prog_19_method_4_code 0 = .ok (.iload_n 0, 1) := by decide +kernel
theorem d_StringLatin1_canEncode_1 : decode prog_19_method_4_code 1 = .ok (.ifCond .lt 14, 3) := by decide +kernel
theorem d_StringLatin1_canEncode_4 : decode prog_19_method_4_code 4 = .ok (.iload_n 0, 1) := by decide +kernel
theorem d_StringLatin1_canEncode_5 : decode prog_19_method_4_code 5 = .ok (.sipush 255, 3) := by decide +kernel
theorem d_StringLatin1_canEncode_8 : decode prog_19_method_4_code 8 = .ok (.if_icmp .gt 7, 3) := by decide +kernel
theorem d_StringLatin1_canEncode_11 : decode prog_19_method_4_code 11 = .ok (.iconst 1, 1) := by decide +kernel
theorem d_StringLatin1_canEncode_12 : decode prog_19_method_4_code 12 = .ok (.goto 4, 3) := by decide +kernel
theorem d_StringLatin1_canEncode_15 : decode prog_19_method_4_code 15 = .ok (.iconst 0, 1) := by decide +kernel
theorem d_StringLatin1_canEncode_16 : decode prog_19_method_4_code 16 = .ok (.ireturn, 1) := by decide +kernel
theorem d_StringLatin1_indexOfChar_0 : decode prog_19_method_23_code 0 = .ok (.iload_n 1, 1) := by decide +kernel
theorem d_StringLatin1_indexOfChar_1 : decode prog_19_method_23_code 1 = .ok (.i2b, 1) := by decide +kernel
theorem d_StringLatin1_indexOfChar_2 : decode prog_19_method_23_code 2 = .ok (.istore 4, 2) := by decide +kernel
theorem d_StringLatin1_indexOfChar_4 : decode prog_19_method_23_code 4 = .ok (.iload_n 2, 1) := by decide +kernel
theorem d_StringLatin1_indexOfChar_5 : decode prog_19_method_23_code 5 = .ok (.istore 5, 2) := by decide +kernel
theorem d_StringLatin1_indexOfChar_7 : decode prog_19_method_23_code 7 = .ok (.iload 5, 2) := by decide +kernel
theorem d_StringLatin1_indexOfChar_9 : decode prog_19_method_23_code 9 = .ok (.iload_n 3, 1) := by decide +kernel
theorem d_StringLatin1_indexOfChar_10 : decode prog_19_method_23_code 10 = .ok (.if_icmp .ge 21, 3) := by decide +kernel
theorem d_StringLatin1_indexOfChar_13 : decode prog_19_method_23_code 13 = .ok (.aload_n 0, 1) := by decide +kernel
theorem d_StringLatin1_indexOfChar_14 : decode prog_19_method_23_code 14 = .ok (.iload 5, 2) := by decide +kernel
theorem d_StringLatin1_indexOfChar_16 : decode prog_19_method_23_code 16 = .ok (.baload, 1) := by decide +kernel
theorem d_StringLatin1_indexOfChar_17 : decode prog_19_method_23_code 17 = .ok (.iload 4, 2) := by decide +kernel
theorem d_StringLatin1_indexOfChar_19 : decode prog_19_method_23_code 19 = .ok (.if_icmp .ne 6, 3) := by decide +kernel
theorem d_StringLatin1_indexOfChar_22 : decode prog_19_method_23_code 22 = .ok (.iload 5, 2) := by decide +kernel
theorem d_StringLatin1_indexOfChar_24 : decode prog_19_method_23_code 24 = .ok (.ireturn, 1) := by decide +kernel
theorem d_StringLatin1_indexOfChar_25 : decode prog_19_method_23_code 25 = .ok (.iinc 5 1, 3) := by decide +kernel
theorem d_StringLatin1_indexOfChar_28 : decode prog_19_method_23_code 28 = .ok (.goto (-21), 3) := by decide +kernel
theorem d_StringLatin1_indexOfChar_31 : decode prog_19_method_23_code 31 = .ok (.iconst (-1), 1) := by decide +kernel
theorem d_StringLatin1_indexOfChar_32 : decode prog_19_method_23_code 32 = .ok (.ireturn, 1) := by decide +kernel
theorem d_String_charAt_0 : decode prog_18_method_56_code 0 = .ok (.aload_n 0, 1) := by decide +kernel
theorem d_String_charAt_1 : decode prog_18_method_56_code 1 = .ok (.invokevirtual 492, 3) := by decide +kernel
theorem d_String_charAt_4 : decode prog_18_method_56_code 4 = .ok (.ifCond .eq 12, 3) := by decide +kernel
theorem d_String_charAt_7 : decode prog_18_method_56_code 7 = .ok (.aload_n 0, 1) := by decide +kernel
theorem d_String_charAt_8 : decode prog_18_method_56_code 8 = .ok (.getfield 9, 3) := by decide +kernel
theorem d_String_charAt_11 : decode prog_18_method_56_code 11 = .ok (.iload_n 1, 1) := by decide +kernel
theorem d_String_charAt_12 : decode prog_18_method_56_code 12 = .ok (.invokestatic 495, 3) := by decide +kernel
theorem d_String_charAt_15 : decode prog_18_method_56_code 15 = .ok (.ireturn, 1) := by decide +kernel
theorem d_String_charAt_16 : decode prog_18_method_56_code 16 = .ok (.aload_n 0, 1) := by decide +kernel
theorem d_String_charAt_17 : decode prog_18_method_56_code 17 = .ok (.getfield 9, 3) := by decide +kernel
theorem d_String_charAt_20 : decode prog_18_method_56_code 20 = .ok (.iload_n 1, 1) := by decide +kernel
theorem d_String_charAt_21 : decode prog_18_method_56_code 21 = .ok (.invokestatic 498, 3) := by decide +kernel
theorem d_String_charAt_24 : decode prog_18_method_56_code 24 = .ok (.ireturn, 1) := by decide +kernel
theorem d_StringLatin1_charAt_0 : decode prog_19_method_2_code 0 = .ok (.iload_n 1, 1) := by decide +kernel
theorem d_StringLatin1_charAt_1 : decode prog_19_method_2_code 1 = .ok (.aload_n 0, 1) := by decide +kernel
theorem d_StringLatin1_charAt_2 : decode prog_19_method_2_code 2 = .ok (.arraylength, 1) := by decide +kernel
theorem d_StringLatin1_charAt_3 : decode prog_19_method_2_code 3 = .ok (.invokestatic 9, 3) := by decide +kernel
theorem d_StringLatin1_charAt_6 : decode prog_19_method_2_code 6 = .ok (.aload_n 0, 1) := by decide +kernel
theorem d_StringLatin1_charAt_7 : decode prog_19_method_2_code 7 = .ok (.iload_n 1, 1) := by decide +kernel
theorem d_StringLatin1_charAt_8 : decode prog_19_method_2_code 8 = .ok (.baload, 1) := by decide +kernel
theorem d_StringLatin1_charAt_9 : decode prog_19_method_2_code 9 = .ok (.sipush 255, 3) := by decide +kernel
theorem d_StringLatin1_charAt_12 : decode prog_19_method_2_code 12 = .ok (.iand, 1) := by decide +kernel
theorem d_StringLatin1_charAt_13 : decode prog_19_method_2_code 13 = .ok (.i2c, 1) := by decide +kernel
theorem d_StringLatin1_charAt_14 : decode prog_19_method_2_code 14 = .ok (.ireturn, 1) := by decide +kernel
theorem d_String_checkIndex_0 : decode prog_18_method_155_code 0 = .ok (.iload_n 0, 1) := by decide +kernel
theorem d_String_checkIndex_1 : decode prog_18_method_155_code 1 = .ok (.iload_n 1, 1) := by decide +kernel
theorem d_String_checkIndex_2 : decode prog_18_method_155_code 2 = .ok (.getstatic 1053, 3) := by decide +kernel
theorem d_String_checkIndex_5 : decode prog_18_method_155_code 5 = .ok (.invokestatic 1059, 3) := by decide +kernel
theorem d_String_checkIndex_8 : decode prog_18_method_155_code 8 = .ok (.pop, 1) := by decide +kernel
theorem d_String_checkIndex_9 : decode prog_18_method_155_code 9 = .ok (.return_, 1) := by decide +kernel
theorem d_Preconditions_checkIndex_0 : decode prog_24_method_11_code 0 = .ok (.iload_n 0, 1) := by decide +kernel
theorem d_Preconditions_checkIndex_1 : decode prog_24_method_11_code 1 = .ok (.ifCond .lt 8, 3) := by decide +kernel
theorem d_Preconditions_checkIndex_4 : decode prog_24_method_11_code 4 = .ok (.iload_n 0, 1) := by decide +kernel
theorem d_Preconditions_checkIndex_5 : decode prog_24_method_11_code 5 = .ok (.iload_n 1, 1) := by decide +kernel
theorem d_Preconditions_checkIndex_6 : decode prog_24_method_11_code 6 = .ok (.if_icmp .lt 10, 3) := by decide +kernel
theorem d_Preconditions_checkIndex_9 : decode prog_24_method_11_code 9 = .ok (.aload_n 2, 1) := by decide +kernel
theorem d_Preconditions_checkIndex_10 : decode prog_24_method_11_code 10 = .ok (.iload_n 0, 1) := by decide +kernel
theorem d_Preconditions_checkIndex_11 : decode prog_24_method_11_code 11 = .ok (.iload_n 1, 1) := by decide +kernel
theorem d_Preconditions_checkIndex_12 : decode prog_24_method_11_code 12 = .ok (.invokestatic 95, 3) := by decide +kernel
theorem d_Preconditions_checkIndex_15 : decode prog_24_method_11_code 15 = .ok (.athrow, 1) := by decide +kernel
theorem d_Preconditions_checkIndex_16 : decode prog_24_method_11_code 16 = .ok (.iload_n 0, 1) := by decide +kernel
theorem d_Preconditions_checkIndex_17 : decode prog_24_method_11_code 17 = .ok (.ireturn, 1) := by decide +kernel
