theorem d_Model_init_171 : decode prog_11_method_1_code 171 = .ok (.newarray .int, 2) := by decide +kernel
theorem d_Model_init_173 : decode prog_11_method_1_code 173 = .ok (.putfield 67, 3) := by decide +kernel
theorem d_Model_init_176 : decode prog_11_method_1_code 176 = .ok (.aload_n 0, 1) := by decide +kernel
theorem d_Model_init_177 : decode prog_11_method_1_code 177 = .ok (.sipush 800, 3) := by decide +kernel
theorem d_Model_init_180 : decode prog_11_method_1_code 180 = .ok (.newarray .int, 2) := by decide +kernel
theorem d_Model_init_182 : decode prog_11_method_1_code 182 = .ok (.putfield 70, 3) := by decide +kernel
theorem d_Model_init_185 : decode prog_11_method_1_code 185 = .ok (.aload_n 0, 1) := by decide +kernel
theorem d_Model_init_186 : decode prog_11_method_1_code 186 = .ok (.sipush 800, 3) := by decide +kernel
theorem d_Model_init_189 : decode prog_11_method_1_code 189 = .ok (.newarray .boolean, 2) := by decide +kernel
theorem d_Model_init_191 : decode prog_11_method_1_code 191 = .ok (.putfield 73, 3) := by decide +kernel
theorem d_Model_init_194 : decode prog_11_method_1_code 194 = .ok (.aload_n 0, 1) := by decide +kernel
theorem d_Model_init_195 : decode prog_11_method_1_code 195 = .ok (.sipush 800, 3) := by decide +kernel
theorem d_Model_init_198 : decode prog_11_method_1_code 198 = .ok (.newarray .int, 2) := by decide +kernel
theorem d_Model_init_200 : decode prog_11_method_1_code 200 = .ok (.putfield 77, 3) := by decide +kernel
theorem d_Model_init_203 : decode prog_11_method_1_code 203 = .ok (.aload_n 0, 1) := by decide +kernel
theorem d_Model_init_204 : decode prog_11_method_1_code 204 = .ok (.sipush 800, 3) := by decide +kernel
theorem d_Model_init_207 : decode prog_11_method_1_code 207 = .ok (.newarray .int, 2) := by decide +kernel
theorem d_Model_init_209 : decode prog_11_method_1_code 209 = .ok (.putfield 80, 3) := by decide +kernel
theorem d_Model_init_212 : decode prog_11_method_1_code 212 = .ok (.aload_n 0, 1) := by decide +kernel
theorem d_Model_init_213 : decode prog_11_method_1_code 213 = .ok (.sipush 1600, 3) := by decide +kernel
theorem d_Model_init_216 : decode prog_11_method_1_code 216 = .ok (.newarray .int, 2) := by decide +kernel
theorem d_Model_init_218 : decode prog_11_method_1_code 218 = .ok (.putfield 83, 3) := by decide +kernel
theorem d_Model_init_221 : decode prog_11_method_1_code 221 = .ok (.aload_n 0, 1) := by decide +kernel
theorem d_Model_init_222 : decode prog_11_method_1_code 222 = .ok (.sipush 1600, 3) := by decide +kernel
theorem d_Model_init_225 : decode prog_11_method_1_code 225 = .ok (.newarray .int, 2) := by decide +kernel
theorem d_Model_init_227 : decode prog_11_method_1_code 227 = .ok (.putfield 86, 3) := by decide +kernel
theorem d_Model_init_230 : decode prog_11_method_1_code 230 = .ok (.aload_n 0, 1) := by decide +kernel
theorem d_Model_init_231 : decode prog_11_method_1_code 231 = .ok (.sipush 1600, 3) := by decide +kernel
theorem d_Model_init_234 : decode prog_11_method_1_code 234 = .ok (.newarray .int, 2) := by decide +kernel
theorem d_Model_init_236 : decode prog_11_method_1_code 236 = .ok (.putfield 89, 3) := by decide +kernel
theorem d_Model_init_239 : decode prog_11_method_1_code 239 = .ok (.aload_n 0, 1) := by decide +kernel
theorem d_Model_init_240 : decode prog_11_method_1_code 240 = .ok (.iconst (-1), 1) := by decide +kernel
theorem d_Model_init_241 : decode prog_11_method_1_code 241 = .ok (.putfield 92, 3) := by decide +kernel
theorem d_Model_init_244 : decode prog_11_method_1_code 244 = .ok (.aload_n 0, 1) := by decide +kernel
theorem d_Model_init_245 : decode prog_11_method_1_code 245 = .ok (.iconst (-1), 1) := by decide +kernel
theorem d_Model_init_246 : decode prog_11_method_1_code 246 = .ok (.putfield 96, 3) := by decide +kernel
theorem d_Model_init_249 : decode prog_11_method_1_code 249 = .ok (.return_, 1) := by decide +kernel
theorem d_Model_isLeap_0 : decode prog_11_method_59_code 0 = .ok (.iload_n 0, 1) := by decide +kernel
theorem d_Model_isLeap_1 : decode prog_11_method_59_code 1 = .ok (.iconst 4, 1) := by decide +kernel
theorem d_Model_isLeap_2 : decode prog_11_method_59_code 2 = .ok (.irem, 1) := by decide +kernel
theorem d_Model_isLeap_3 : decode prog_11_method_59_code 3 = .ok (.ifCond .ne 22, 3) := by decide +kernel
theorem d_Model_isLeap_6 : decode prog_11_method_59_code 6 = .ok (.iload_n 0, 1) := by decide +kernel
theorem d_Model_isLeap_7 : decode prog_11_method_59_code 7 = .ok (.bipush 100, 2) := by decide +kernel
theorem d_Model_isLeap_9 : decode prog_11_method_59_code 9 = .ok (.irem, 1) := by decide +kernel
theorem d_Model_isLeap_10 : decode prog_11_method_59_code 10 = .ok (.ifCond .ne 11, 3) := by decide +kernel
theorem d_Model_isLeap_13 : decode prog_11_method_59_code 13 = .ok (.iload_n 0, 1) := by decide +kernel
theorem d_Model_isLeap_14 : decode prog_11_method_59_code 14 = .ok (.sipush 400, 3) := by decide +kernel
theorem d_Model_isLeap_17 : decode prog_11_method_59_code 17 = .ok (.irem, 1) := by decide +kernel
theorem d_Model_isLeap_18 : decode prog_11_method_59_code 18 = .ok (.ifCond .ne 7, 3) := by decide +kernel
theorem d_Model_isLeap_21 : decode prog_11_method_59_code 21 = .ok (.iconst 1, 1) := by decide +kernel
theorem d_Model_isLeap_22 : decode prog_11_method_59_code 22 = .ok (.goto 4, 3) := by decide +kernel
theorem d_Model_isLeap_25 : decode prog_11_method_59_code 25 = .ok (.iconst 0, 1) := by decide +kernel
theorem d_Model_isLeap_26 : decode prog_11_method_59_code 26 = .ok (.ireturn, 1) := by decide +kernel
theorem d_Model_daysOf_0 : decode prog_11_method_60_code 0 = .ok (.iload_n 0, 1) := by decide +kernel
theorem d_Model_daysOf_1 : decode prog_11_method_60_code 1 = .ok (.iconst 2, 1) := by decide +kernel
theorem d_Model_daysOf_2 : decode prog_11_method_60_code 2 = .ok (.if_icmp .ne 18, 3) := by decide +kernel
theorem d_Model_daysOf_5 : decode prog_11_method_60_code 5 = .ok (.iload_n 1, 1) := by decide +kernel
theorem d_Model_daysOf_6 : decode prog_11_method_60_code 6 = .ok (.invokestatic 300, 3) := by decide +kernel
theorem d_Model_daysOf_9 : decode prog_11_method_60_code 9 = .ok (.ifCond .eq 8, 3) := by decide +kernel
theorem d_Model_daysOf_12 : decode prog_11_method_60_code 12 = .ok (.bipush 29, 2) := by decide +kernel
theorem d_Model_daysOf_14 : decode prog_11_method_60_code 14 = .ok (.goto 5, 3) := by decide +kernel
theorem d_Model_daysOf_17 : decode prog_11_method_60_code 17 = .ok (.bipush 28, 2) := by decide +kernel
theorem d_Model_daysOf_19 : decode prog_11_method_60_code 19 = .ok (.ireturn, 1) := by decide +kernel
theorem d_Model_daysOf_20 : decode prog_11_method_60_code 20 = .ok (.iload_n 0, 1) := by decide +kernel
theorem d_Model_daysOf_21 : decode prog_11_method_60_code 21 = .ok (.iconst 4, 1) := by decide +kernel
theorem d_Model_daysOf_22 : decode prog_11_method_60_code 22 = .ok (.if_icmp .eq 21, 3) := by decide +kernel
theorem d_Model_daysOf_25 : decode prog_11_method_60_code 25 = .ok (.iload_n 0, 1) := by decide +kernel
theorem d_Model_daysOf_26 : decode prog_11_method_60_code 26 = .ok (.bipush 6, 2) := by decide +kernel
theorem d_Model_daysOf_28 : decode prog_11_method_60_code 28 = .ok (.if_icmp .eq 15, 3) := by decide +kernel
theorem d_Model_daysOf_31 : decode prog_11_method_60_code 31 = .ok (.iload_n 0, 1) := by decide +kernel
theorem d_Model_daysOf_32 : decode prog_11_method_60_code 32 = .ok (.bipush 9, 2) := by decide +kernel
theorem d_Model_daysOf_34 : decode prog_11_method_60_code 34 = .ok (.if_icmp .eq 9, 3) := by decide +kernel
theorem d_Model_daysOf_37 : decode prog_11_method_60_code 37 = .ok (.iload_n 0, 1) := by decide +kernel
theorem d_Model_daysOf_38 : decode prog_11_method_60_code 38 = .ok (.bipush 11, 2) := by decide +kernel
theorem d_Model_daysOf_40 : decode prog_11_method_60_code 40 = .ok (.if_icmp .ne 8, 3) := by decide +kernel
theorem d_Model_daysOf_43 : decode prog_11_method_60_code 43 = .ok (.bipush 30, 2) := by decide +kernel
theorem d_Model_daysOf_45 : decode prog_11_method_60_code 45 = .ok (.goto 5, 3) := by decide +kernel
theorem d_Model_daysOf_48 : decode prog_11_method_60_code 48 = .ok (.bipush 31, 2) := by decide +kernel
theorem d_Model_daysOf_50 : decode prog_11_method_60_code 50 = .ok (.ireturn, 1) := by decide +kernel
theorem d_Model_longOf_0 : decode prog_11_method_52_code 0 = .ok (.aload_n 0, 1) := by decide +kernel
theorem d_Model_longOf_1 : decode prog_11_method_52_code 1 = .ok (.getfield 40, 3) := by decide +kernel
theorem d_Model_longOf_4 : decode prog_11_method_52_code 4 = .ok (.iload_n 1, 1) := by decide +kernel
theorem d_Model_longOf_5 : decode prog_11_method_52_code 5 = .ok (.iaload, 1) := by decide +kernel
theorem d_Model_longOf_6 : decode prog_11_method_52_code 6 = .ok (.aload_n 0, 1) := by decide +kernel
theorem d_Model_longOf_7 : decode prog_11_method_52_code 7 = .ok (.getfield 37, 3) := by decide +kernel
theorem d_Model_longOf_10 : decode prog_11_method_52_code 10 = .ok (.iload_n 1, 1) := by decide +kernel
theorem d_Model_longOf_11 : decode prog_11_method_52_code 11 = .ok (.iaload, 1) := by decide +kernel
theorem d_Model_longOf_12 : decode prog_11_method_52_code 12 = .ok (.isub, 1) := by decide +kernel
theorem d_Model_longOf_13 : decode prog_11_method_52_code 13 = .ok (.ireturn, 1) := by decide +kernel
theorem d_Model_isDigits_0 : decode prog_11_method_53_code 0 = .ok (.iload_n 1, 1) := by decide +kernel
theorem d_Model_isDigits_1 : decode prog_11_method_53_code 1 = .ok (.aload_n 0, 1) := by decide +kernel
theorem d_Model_isDigits_2 : decode prog_11_method_53_code 2 = .ok (.getfield 149, 3) := by decide +kernel
theorem d_Model_isDigits_5 : decode prog_11_method_53_code 5 = .ok (.if_icmp .ge 31, 3) := by decide +kernel
theorem d_Model_isDigits_8 : decode prog_11_method_53_code 8 = .ok (.aload_n 0, 1) := by decide +kernel
theorem d_Model_isDigits_9 : decode prog_11_method_53_code 9 = .ok (.getfield 31, 3) := by decide +kernel
theorem d_Model_isDigits_12 : decode prog_11_method_53_code 12 = .ok (.iload_n 1, 1) := by decide +kernel
theorem d_Model_isDigits_13 : decode prog_11_method_53_code 13 = .ok (.iaload, 1) := by decide +kernel
theorem d_Model_isDigits_14 : decode prog_11_method_53_code 14 = .ok (.iconst 4, 1) := by decide +kernel
theorem d_Model_isDigits_15 : decode prog_11_method_53_code 15 = .ok (.if_icmp .ne 21, 3) := by decide +kernel
theorem d_Model_isDigits_18 : decode prog_11_method_53_code 18 = .ok (.aload_n 0, 1) := by decide +kernel
theorem d_Model_isDigits_19 : decode prog_11_method_53_code 19 = .ok (.iload_n 1, 1) := by decide +kernel
theorem d_Model_isDigits_20 : decode prog_11_method_53_code 20 = .ok (.invokevirtual 268, 3) := by decide +kernel
theorem d_Model_isDigits_23 : decode prog_11_method_53_code 23 = .ok (.iload_n 2, 1) := by decide +kernel
theorem d_Model_isDigits_24 : decode prog_11_method_53_code 24 = .ok (.if_icmp .lt 12, 3) := by decide +kernel
theorem d_Model_isDigits_27 : decode prog_11_method_53_code 27 = .ok (.aload_n 0, 1) := by decide +kernel
theorem d_Model_isDigits_28 : decode prog_11_method_53_code 28 = .ok (.iload_n 1, 1) := by decide +kernel
theorem d_Model_isDigits_29 : decode prog_11_method_53_code 29 = .ok (.invokevirtual 268, 3) := by decide +kernel
theorem d_Model_isDigits_32 : decode prog_11_method_53_code 32 = .ok (.iload_n 3, 1) := by decide +kernel
theorem d_Model_isDigits_33 : decode prog_11_method_53_code 33 = .ok (.if_icmp .le 5, 3) := by decide +kernel
theorem d_Model_isDigits_36 : decode prog_11_method_53_code 36 = .ok (.iconst 0, 1) := by decide +kernel
theorem d_Model_isDigits_37 : decode prog_11_method_53_code 37 = .ok (.ireturn, 1) := by decide +kernel
theorem d_Model_isDigits_38 : decode prog_11_method_53_code 38 = .ok (.aload_n 0, 1) := by decide +kernel
theorem d_Model_isDigits_39 : decode prog_11_method_53_code 39 = .ok (.getfield 37, 3) := by decide +kernel
theorem d_Model_isDigits_42 : decode prog_11_method_53_code 42 = .ok (.iload_n 1, 1) := by decide +kernel
theorem d_Model_isDigits_43 : decode prog_11_method_53_code 43 = .ok (.iaload, 1) := by decide +kernel
theorem d_Model_isDigits_44 : decode prog_11_method_53_code 44 = .ok (.istore 4, 2) := by decide +kernel
theorem d_Model_isDigits_46 : decode prog_11_method_53_code 46 = .ok (.iload 4, 2) := by decide +kernel
theorem d_Model_isDigits_48 : decode prog_11_method_53_code 48 = .ok (.aload_n 0, 1) := by decide +kernel
theorem d_Model_isDigits_49 : decode prog_11_method_53_code 49 = .ok (.getfield 40, 3) := by decide +kernel
theorem d_Model_isDigits_52 : decode prog_11_method_53_code 52 = .ok (.iload_n 1, 1) := by decide +kernel
theorem d_Model_isDigits_53 : decode prog_11_method_53_code 53 = .ok (.iaload, 1) := by decide +kernel
theorem d_Model_isDigits_54 : decode prog_11_method_53_code 54 = .ok (.if_icmp .ge 24, 3) := by decide +kernel
theorem d_Model_isDigits_57 : decode prog_11_method_53_code 57 = .ok (.aload_n 0, 1) := by decide +kernel
theorem d_Model_isDigits_58 : decode prog_11_method_53_code 58 = .ok (.getfield 43, 3) := by decide +kernel
theorem d_Model_isDigits_61 : decode prog_11_method_53_code 61 = .ok (.iload 4, 2) := by decide +kernel
theorem d_Model_isDigits_63 : decode prog_11_method_53_code 63 = .ok (.iaload, 1) := by decide +kernel
theorem d_Model_isDigits_64 : decode prog_11_method_53_code 64 = .ok (.invokestatic 271, 3) := by decide +kernel
theorem d_Model_isDigits_67 : decode prog_11_method_53_code 67 = .ok (.ifCond .ne 5, 3) := by decide +kernel
theorem d_Model_isDigits_70 : decode prog_11_method_53_code 70 = .ok (.iconst 0, 1) := by decide +kernel
theorem d_Model_isDigits_71 : decode prog_11_method_53_code 71 = .ok (.ireturn, 1) := by decide +kernel
theorem d_Model_isDigits_72 : decode prog_11_method_53_code 72 = .ok (.iinc 4 1, 3) := by decide +kernel
theorem d_Model_isDigits_75 : decode prog_11_method_53_code 75 = .ok (.goto (-29), 3) := by decide +kernel
theorem d_Model_isDigits_78 : decode prog_11_method_53_code 78 = .ok (.iconst 1, 1) := by decide +kernel
theorem d_Model_isDigits_79 : decode prog_11_method_53_code 79 = .ok (.ireturn, 1) := by decide +kernel
theorem d_Model_numberOf_0 : decode prog_11_method_54_code 0 = .ok (.iconst 0, 1) := by decide +kernel
theorem d_Model_numberOf_1 : decode prog_11_method_54_code 1 = .ok (.istore_n 3, 1) := by decide +kernel
theorem d_Model_numberOf_2 : decode prog_11_method_54_code 2 = .ok (.iload_n 1, 1) := by decide +kernel
theorem d_Model_numberOf_3 : decode prog_11_method_54_code 3 = .ok (.istore 4, 2) := by decide +kernel
theorem d_Model_numberOf_5 : decode prog_11_method_54_code 5 = .ok (.iload 4, 2) := by decide +kernel
theorem d_Model_numberOf_7 : decode prog_11_method_54_code 7 = .ok (.iload_n 2, 1) := by decide +kernel
theorem d_Model_numberOf_8 : decode prog_11_method_54_code 8 = .ok (.if_icmp .ge 36, 3) := by decide +kernel
theorem d_Model_numberOf_11 : decode prog_11_method_54_code 11 = .ok (.iload_n 3, 1) := by decide +kernel
theorem d_Model_numberOf_12 : decode prog_11_method_54_code 12 = .ok (.ldc_w 274, 3) := by decide +kernel
theorem d_Model_numberOf_15 : decode prog_11_method_54_code 15 = .ok (.if_icmp .le 7, 3) := by decide +kernel
theorem d_Model_numberOf_18 : decode prog_11_method_54_code 18 = .ok (.iload_n 3, 1) := by decide +kernel
theorem d_Model_numberOf_19 : decode prog_11_method_54_code 19 = .ok (.goto 18, 3) := by decide +kernel
theorem d_Model_numberOf_22 : decode prog_11_method_54_code 22 = .ok (.bipush 10, 2) := by decide +kernel
theorem d_Model_numberOf_24 : decode prog_11_method_54_code 24 = .ok (.iload_n 3, 1) := by decide +kernel
theorem d_Model_numberOf_25 : decode prog_11_method_54_code 25 = .ok (.imul, 1) := by decide +kernel
theorem d_Model_numberOf_26 : decode prog_11_method_54_code 26 = .ok (.aload_n 0, 1) := by decide +kernel
theorem d_Model_numberOf_27 : decode prog_11_method_54_code 27 = .ok (.getfield 43, 3) := by decide +kernel
theorem d_Model_numberOf_30 : decode prog_11_method_54_code 30 = .ok (.iload 4, 2) := by decide +kernel
theorem d_Model_numberOf_32 : decode prog_11_method_54_code 32 = .ok (.iaload, 1) := by decide +kernel
theorem d_Model_numberOf_33 : decode prog_11_method_54_code 33 = .ok (.iadd, 1) := by decide +kernel
theorem d_Model_numberOf_34 : decode prog_11_method_54_code 34 = .ok (.bipush 48, 2) := by decide +kernel
theorem d_Model_numberOf_36 : decode prog_11_method_54_code 36 = .ok (.isub, 1) := by decide +kernel
theorem d_Model_numberOf_37 : decode prog_11_method_54_code 37 = .ok (.istore_n 3, 1) := by decide +kernel
theorem d_Model_numberOf_38 : decode prog_11_method_54_code 38 = .ok (.iinc 4 1, 3) := by decide +kernel
theorem d_Model_numberOf_41 : decode prog_11_method_54_code 41 = .ok (.goto (-36), 3) := by decide +kernel
theorem d_Model_numberOf_44 : decode prog_11_method_54_code 44 = .ok (.iload_n 3, 1) := by decide +kernel
theorem d_Model_numberOf_45 : decode prog_11_method_54_code 45 = .ok (.ireturn, 1) := by decide +kernel
theorem d_Model_number_0 : decode prog_11_method_55_code 0 = .ok (.aload_n 0, 1) := by decide +kernel
theorem d_Model_number_1 : decode prog_11_method_55_code 1 = .ok (.aload_n 0, 1) := by decide +kernel
theorem d_Model_number_2 : decode prog_11_method_55_code 2 = .ok (.getfield 37, 3) := by decide +kernel
theorem d_Model_number_5 : decode prog_11_method_55_code 5 = .ok (.iload_n 1, 1) := by decide +kernel
theorem d_Model_number_6 : decode prog_11_method_55_code 6 = .ok (.iaload, 1) := by decide +kernel
theorem d_Model_number_7 : decode prog_11_method_55_code 7 = .ok (.aload_n 0, 1) := by decide +kernel
theorem d_Model_number_8 : decode prog_11_method_55_code 8 = .ok (.getfield 40, 3) := by decide +kernel
theorem d_Model_number_11 : decode prog_11_method_55_code 11 = .ok (.iload_n 1, 1) := by decide +kernel
theorem d_Model_number_12 : decode prog_11_method_55_code 12 = .ok (.iaload, 1) := by decide +kernel
theorem d_Model_number_13 : decode prog_11_method_55_code 13 = .ok (.invokevirtual 275, 3) := by decide +kernel
theorem d_Model_number_16 : decode prog_11_method_55_code 16 = .ok (.ireturn, 1) := by decide +kernel
theorem d_Model_yearOf_0 : decode prog_11_method_58_code 0 = .ok (.aload_n 0, 1) := by decide +kernel
theorem d_Model_yearOf_1 : decode prog_11_method_58_code 1 = .ok (.iload_n 1, 1) := by decide +kernel
theorem d_Model_yearOf_2 : decode prog_11_method_58_code 2 = .ok (.iconst 2, 1) := by decide +kernel
theorem d_Model_yearOf_3 : decode prog_11_method_58_code 3 = .ok (.bipush 9, 2) := by decide +kernel
theorem d_Model_yearOf_5 : decode prog_11_method_58_code 5 = .ok (.invokevirtual 294, 3) := by decide +kernel
theorem d_Model_yearOf_8 : decode prog_11_method_58_code 8 = .ok (.ifCond .ne 5, 3) := by decide +kernel
theorem d_Model_yearOf_11 : decode prog_11_method_58_code 11 = .ok (.iconst (-1), 1) := by decide +kernel
theorem d_Model_yearOf_12 : decode prog_11_method_58_code 12 = .ok (.ireturn, 1) := by decide +kernel
theorem d_Model_yearOf_13 : decode prog_11_method_58_code 13 = .ok (.aload_n 0, 1) := by decide +kernel
theorem d_Model_yearOf_14 : decode prog_11_method_58_code 14 = .ok (.iload_n 1, 1) := by decide +kernel
theorem d_Model_yearOf_15 : decode prog_11_method_58_code 15 = .ok (.invokevirtual 297, 3) := by decide +kernel
theorem d_Model_yearOf_18 : decode prog_11_method_58_code 18 = .ok (.istore_n 2, 1) := by decide +kernel
theorem d_Model_yearOf_19 : decode prog_11_method_58_code 19 = .ok (.aload_n 0, 1) := by decide +kernel
theorem d_Model_yearOf_20 : decode prog_11_method_58_code 20 = .ok (.iload_n 1, 1) := by decide +kernel
theorem d_Model_yearOf_21 : decode prog_11_method_58_code 21 = .ok (.invokevirtual 268, 3) := by decide +kernel
theorem d_Model_yearOf_24 : decode prog_11_method_58_code 24 = .ok (.istore_n 3, 1) := by decide +kernel
theorem d_Model_yearOf_25 : decode prog_11_method_58_code 25 = .ok (.iload_n 3, 1) := by decide +kernel
theorem d_Model_yearOf_26 : decode prog_11_method_58_code 26 = .ok (.iconst 2, 1) := by decide +kernel
theorem d_Model_yearOf_27 : decode prog_11_method_58_code 27 = .ok (.if_icmp .ne 25, 3) := by decide +kernel
theorem d_Model_yearOf_30 : decode prog_11_method_58_code 30 = .ok (.iload_n 2, 1) := by decide +kernel
theorem d_Model_yearOf_31 : decode prog_11_method_58_code 31 = .ok (.bipush 50, 2) := by decide +kernel
theorem d_Model_yearOf_33 : decode prog_11_method_58_code 33 = .ok (.if_icmp .ge 11, 3) := by decide +kernel
theorem d_Model_yearOf_36 : decode prog_11_method_58_code 36 = .ok (.sipush 2000, 3) := by decide +kernel
theorem d_Model_yearOf_39 : decode prog_11_method_58_code 39 = .ok (.iload_n 2, 1) := by decide +kernel
theorem d_Model_yearOf_40 : decode prog_11_method_58_code 40 = .ok (.iadd, 1) := by decide +kernel
theorem d_Model_yearOf_41 : decode prog_11_method_58_code 41 = .ok (.goto 25, 3) := by decide +kernel
theorem d_Model_yearOf_44 : decode prog_11_method_58_code 44 = .ok (.sipush 1900, 3) := by decide +kernel
theorem d_Model_yearOf_47 : decode prog_11_method_58_code 47 = .ok (.iload_n 2, 1) := by decide +kernel
theorem d_Model_yearOf_48 : decode prog_11_method_58_code 48 = .ok (.iadd, 1) := by decide +kernel
theorem d_Model_yearOf_49 : decode prog_11_method_58_code 49 = .ok (.goto 17, 3) := by decide +kernel
theorem d_Model_yearOf_52 : decode prog_11_method_58_code 52 = .ok (.iload_n 3, 1) := by decide +kernel
theorem d_Model_yearOf_53 : decode prog_11_method_58_code 53 = .ok (.iconst 3, 1) := by decide +kernel
theorem d_Model_yearOf_54 : decode prog_11_method_58_code 54 = .ok (.if_icmp .ne 11, 3) := by decide +kernel
theorem d_Model_yearOf_57 : decode prog_11_method_58_code 57 = .ok (.sipush 1900, 3) := by decide +kernel
theorem d_Model_yearOf_60 : decode prog_11_method_58_code 60 = .ok (.iload_n 2, 1) := by decide +kernel
theorem d_Model_yearOf_61 : decode prog_11_method_58_code 61 = .ok (.iadd, 1) := by decide +kernel
theorem d_Model_yearOf_62 : decode prog_11_method_58_code 62 = .ok (.goto 4, 3) := by decide +kernel
theorem d_Model_yearOf_65 : decode prog_11_method_58_code 65 = .ok (.iload_n 2, 1) := by decide +kernel
theorem d_Model_yearOf_66 : decode prog_11_method_58_code 66 = .ok (.ireturn, 1) := by decide +kernel
theorem d_Model_two_0 : decode prog_11_method_62_code 0 = .ok (.aload_n 0, 1) := by decide +kernel
theorem d_Model_two_1 : decode prog_11_method_62_code 1 = .ok (.aload_n 0, 1) := by decide +kernel
theorem d_Model_two_2 : decode prog_11_method_62_code 2 = .ok (.getfield 265, 3) := by decide +kernel
theorem d_Model_two_5 : decode prog_11_method_62_code 5 = .ok (.iconst 2, 1) := by decide +kernel
theorem d_Model_two_6 : decode prog_11_method_62_code 6 = .ok (.iconst 2, 1) := by decide +kernel
theorem d_Model_two_7 : decode prog_11_method_62_code 7 = .ok (.invokevirtual 294, 3) := by decide +kernel
theorem d_Model_two_10 : decode prog_11_method_62_code 10 = .ok (.ifCond .eq 14, 3) := by decide +kernel
theorem d_Model_two_13 : decode prog_11_method_62_code 13 = .ok (.aload_n 0, 1) := by decide +kernel
theorem d_Model_two_14 : decode prog_11_method_62_code 14 = .ok (.aload_n 0, 1) := by decide +kernel
theorem d_Model_two_15 : decode prog_11_method_62_code 15 = .ok (.getfield 265, 3) := by decide +kernel
theorem d_Model_two_18 : decode prog_11_method_62_code 18 = .ok (.invokevirtual 297, 3) := by decide +kernel
theorem d_Model_two_21 : decode prog_11_method_62_code 21 = .ok (.goto 4, 3) := by decide +kernel
theorem d_Model_two_24 : decode prog_11_method_62_code 24 = .ok (.iconst (-1), 1) := by decide +kernel
theorem d_Model_two_25 : decode prog_11_method_62_code 25 = .ok (.istore_n 2, 1) := by decide +kernel
theorem d_Model_two_26 : decode prog_11_method_62_code 26 = .ok (.iload_n 2, 1) := by decide +kernel
theorem d_Model_two_27 : decode prog_11_method_62_code 27 = .ok (.iload_n 1, 1) := by decide +kernel
theorem d_Model_two_28 : decode prog_11_method_62_code 28 = .ok (.if_icmp .ge 7, 3) := by decide +kernel
theorem d_Model_two_31 : decode prog_11_method_62_code 31 = .ok (.iload_n 2, 1) := by decide +kernel
theorem d_Model_two_32 : decode prog_11_method_62_code 32 = .ok (.goto 4, 3) := by decide +kernel
theorem d_Model_two_35 : decode prog_11_method_62_code 35 = .ok (.iconst (-1), 1) := by decide +kernel
theorem d_Model_two_36 : decode prog_11_method_62_code 36 = .ok (.ireturn, 1) := by decide +kernel
theorem d_Model_dayNumber_0 : decode prog_11_method_63_code 0 = .ok (.lconst 0, 1) := by decide +kernel
theorem d_Model_dayNumber_1 : decode prog_11_method_63_code 1 = .ok (.lstore 4, 2) := by decide +kernel
theorem d_Model_dayNumber_3 : decode prog_11_method_63_code 3 = .ok (.sipush 1900, 3) := by decide +kernel
theorem d_Model_dayNumber_6 : decode prog_11_method_63_code 6 = .ok (.istore 6, 2) := by decide +kernel
theorem d_Model_dayNumber_8 : decode prog_11_method_63_code 8 = .ok (.iload 6, 2) := by decide +kernel
theorem d_Model_dayNumber_10 : decode prog_11_method_63_code 10 = .ok (.iload_n 3, 1) := by decide +kernel
theorem d_Model_dayNumber_11 : decode prog_11_method_63_code 11 = .ok (.if_icmp .ge 31, 3) := by decide +kernel
theorem d_Model_dayNumber_14 : decode prog_11_method_63_code 14 = .ok (.lload 4, 2) := by decide +kernel
theorem d_Model_dayNumber_16 : decode prog_11_method_63_code 16 = .ok (.iload 6, 2) := by decide +kernel
theorem d_Model_dayNumber_18 : decode prog_11_method_63_code 18 = .ok (.invokestatic 300, 3) := by decide +kernel
theorem d_Model_dayNumber_21 : decode prog_11_method_63_code 21 = .ok (.ifCond .eq 9, 3) := by decide +kernel
theorem d_Model_dayNumber_24 : decode prog_11_method_63_code 24 = .ok (.ldc2_w 311, 3) := by decide +kernel
theorem d_Model_dayNumber_27 : decode prog_11_method_63_code 27 = .ok (.goto 6, 3) := by decide +kernel
theorem d_Model_dayNumber_30 : decode prog_11_method_63_code 30 = .ok (.ldc2_w 313, 3) := by decide +kernel
theorem d_Model_dayNumber_33 : decode prog_11_method_63_code 33 = .ok (.ladd, 1) := by decide +kernel
theorem d_Model_dayNumber_34 : decode prog_11_method_63_code 34 = .ok (.lstore 4, 2) := by decide +kernel
theorem d_Model_dayNumber_36 : decode prog_11_method_63_code 36 = .ok (.iinc 6 1, 3) := by decide +kernel
theorem d_Model_dayNumber_39 : decode prog_11_method_63_code 39 = .ok (.goto (-31), 3) := by decide +kernel
theorem d_Model_dayNumber_42 : decode prog_11_method_63_code 42 = .ok (.iconst 1, 1) := by decide +kernel
theorem d_Model_dayNumber_43 : decode prog_11_method_63_code 43 = .ok (.istore 6, 2) := by decide +kernel
theorem d_Model_dayNumber_45 : decode prog_11_method_63_code 45 = .ok (.iload 6, 2) := by decide +kernel
theorem d_Model_dayNumber_47 : decode prog_11_method_63_code 47 = .ok (.iload_n 2, 1) := by decide +kernel
theorem d_Model_dayNumber_48 : decode prog_11_method_63_code 48 = .ok (.if_icmp .ge 21, 3) := by decide +kernel
theorem d_Model_dayNumber_51 : decode prog_11_method_63_code 51 = .ok (.lload 4, 2) := by decide +kernel
theorem d_Model_dayNumber_53 : decode prog_11_method_63_code 53 = .ok (.iload 6, 2) := by decide +kernel
theorem d_Model_dayNumber_55 : decode prog_11_method_63_code 55 = .ok (.iload_n 3, 1) := by decide +kernel
theorem d_Model_dayNumber_56 : decode prog_11_method_63_code 56 = .ok (.invokestatic 315, 3) := by decide +kernel
theorem d_Model_dayNumber_59 : decode prog_11_method_63_code 59 = .ok (.i2l, 1) := by decide +kernel
theorem d_Model_dayNumber_60 : decode prog_11_method_63_code 60 = .ok (.ladd, 1) := by decide +kernel
theorem d_Model_dayNumber_61 : decode prog_11_method_63_code 61 = .ok (.lstore 4, 2) := by decide +kernel
theorem d_Model_dayNumber_63 : decode prog_11_method_63_code 63 = .ok (.iinc 6 1, 3) := by decide +kernel
theorem d_Model_dayNumber_66 : decode prog_11_method_63_code 66 = .ok (.goto (-21), 3) := by decide +kernel
theorem d_Model_dayNumber_69 : decode prog_11_method_63_code 69 = .ok (.lload 4, 2) := by decide +kernel
theorem d_Model_dayNumber_71 : decode prog_11_method_63_code 71 = .ok (.iload_n 1, 1) := by decide +kernel
theorem d_Model_dayNumber_72 : decode prog_11_method_63_code 72 = .ok (.i2l, 1) := by decide +kernel
theorem d_Model_dayNumber_73 : decode prog_11_method_63_code 73 = .ok (.ladd, 1) := by decide +kernel
theorem d_Model_dayNumber_74 : decode prog_11_method_63_code 74 = .ok (.lconst 1, 1) := by decide +kernel
theorem d_Model_dayNumber_75 : decode prog_11_method_63_code 75 = .ok (.lsub, 1) := by decide +kernel
theorem d_Model_dayNumber_76 : decode prog_11_method_63_code 76 = .ok (.ldc2_w 318, 3) := by decide +kernel
theorem d_Model_dayNumber_79 : decode prog_11_method_63_code 79 = .ok (.lsub, 1) := by decide +kernel
theorem d_Model_dayNumber_80 : decode prog_11_method_63_code 80 = .ok (.lreturn, 1) := by decide +kernel
theorem d_Model_isThree_0 : decode prog_11_method_56_code 0 = .ok (.iconst 0, 1) := by decide +kernel
theorem d_Model_isThree_1 : decode prog_11_method_56_code 1 = .ok (.istore 4, 2) := by decide +kernel
theorem d_Model_isThree_3 : decode prog_11_method_56_code 3 = .ok (.iload 4, 2) := by decide +kernel
theorem d_Model_isThree_5 : decode prog_11_method_56_code 5 = .ok (.iconst 3, 1) := by decide +kernel
theorem d_Model_isThree_6 : decode prog_11_method_56_code 6 = .ok (.if_icmp .ge 47, 3) := by decide +kernel
theorem d_Model_isThree_9 : decode prog_11_method_56_code 9 = .ok (.aload_n 0, 1) := by decide +kernel
theorem d_Model_isThree_10 : decode prog_11_method_56_code 10 = .ok (.getfield 43, 3) := by decide +kernel
theorem d_Model_isThree_13 : decode prog_11_method_56_code 13 = .ok (.aload_n 0, 1) := by decide +kernel
theorem d_Model_isThree_14 : decode prog_11_method_56_code 14 = .ok (.getfield 37, 3) := by decide +kernel
theorem d_Model_isThree_17 : decode prog_11_method_56_code 17 = .ok (.iload_n 1, 1) := by decide +kernel
theorem d_Model_isThree_18 : decode prog_11_method_56_code 18 = .ok (.iaload, 1) := by decide +kernel
theorem d_Model_isThree_19 : decode prog_11_method_56_code 19 = .ok (.iload_n 2, 1) := by decide +kernel
theorem d_Model_isThree_20 : decode prog_11_method_56_code 20 = .ok (.iadd, 1) := by decide +kernel
theorem d_Model_isThree_21 : decode prog_11_method_56_code 21 = .ok (.iload 4, 2) := by decide +kernel
theorem d_Model_isThree_23 : decode prog_11_method_56_code 23 = .ok (.iadd, 1) := by decide +kernel
theorem d_Model_isThree_24 : decode prog_11_method_56_code 24 = .ok (.iaload, 1) := by decide +kernel
theorem d_Model_isThree_25 : decode prog_11_method_56_code 25 = .ok (.invokestatic 133, 3) := by decide +kernel
theorem d_Model_isThree_28 : decode prog_11_method_56_code 28 = .ok (.iload_n 3, 1) := by decide +kernel
theorem d_Model_isThree_29 : decode prog_11_method_56_code 29 = .ok (.bipush 16, 2) := by decide +kernel
theorem d_Model_isThree_31 : decode prog_11_method_56_code 31 = .ok (.bipush 8, 2) := by decide +kernel
theorem d_Model_isThree_33 : decode prog_11_method_56_code 33 = .ok (.iload 4, 2) := by decide +kernel
theorem d_Model_isThree_35 : decode prog_11_method_56_code 35 = .ok (.imul, 1) := by decide +kernel
theorem d_Model_isThree_36 : decode prog_11_method_56_code 36 = .ok (.isub, 1) := by decide +kernel
theorem d_Model_isThree_37 : decode prog_11_method_56_code 37 = .ok (.ishr, 1) := by decide +kernel
theorem d_Model_isThree_38 : decode prog_11_method_56_code 38 = .ok (.sipush 255, 3) := by decide +kernel
theorem d_Model_isThree_41 : decode prog_11_method_56_code 41 = .ok (.iand, 1) := by decide +kernel
theorem d_Model_isThree_42 : decode prog_11_method_56_code 42 = .ok (.if_icmp .eq 5, 3) := by decide +kernel
theorem d_Model_isThree_45 : decode prog_11_method_56_code 45 = .ok (.iconst 0, 1) := by decide +kernel
theorem d_Model_isThree_46 : decode prog_11_method_56_code 46 = .ok (.ireturn, 1) := by decide +kernel
theorem d_Model_isThree_47 : decode prog_11_method_56_code 47 = .ok (.iinc 4 1, 3) := by decide +kernel
theorem d_Model_isThree_50 : decode prog_11_method_56_code 50 = .ok (.goto (-47), 3) := by decide +kernel
theorem d_Model_isThree_53 : decode prog_11_method_56_code 53 = .ok (.iconst 1, 1) := by decide +kernel
theorem d_Model_isThree_54 : decode prog_11_method_56_code 54 = .ok (.ireturn, 1) := by decide +kernel
theorem d_Model_zoneOf_0 : decode prog_11_method_61_code 0 = .ok (.iload_n 1, 1) := by decide +kernel
theorem d_Model_zoneOf_1 : decode prog_11_method_61_code 1 = .ok (.aload_n 0, 1) := by decide +kernel
theorem d_Model_zoneOf_2 : decode prog_11_method_61_code 2 = .ok (.getfield 149, 3) := by decide +kernel
theorem d_Model_zoneOf_5 : decode prog_11_method_61_code 5 = .ok (.if_icmp .ge 13, 3) := by decide +kernel
theorem d_Model_zoneOf_8 : decode prog_11_method_61_code 8 = .ok (.aload_n 0, 1) := by decide +kernel
theorem d_Model_zoneOf_9 : decode prog_11_method_61_code 9 = .ok (.getfield 31, 3) := by decide +kernel
theorem d_Model_zoneOf_12 : decode prog_11_method_61_code 12 = .ok (.iload_n 1, 1) := by decide +kernel
theorem d_Model_zoneOf_13 : decode prog_11_method_61_code 13 = .ok (.iaload, 1) := by decide +kernel
theorem d_Model_zoneOf_14 : decode prog_11_method_61_code 14 = .ok (.iconst 4, 1) := by decide +kernel
theorem d_Model_zoneOf_15 : decode prog_11_method_61_code 15 = .ok (.if_icmp .eq 5, 3) := by decide +kernel
theorem d_Model_zoneOf_18 : decode prog_11_method_61_code 18 = .ok (.iconst 0, 1) := by decide +kernel
theorem d_Model_zoneOf_19 : decode prog_11_method_61_code 19 = .ok (.ireturn, 1) := by decide +kernel
theorem d_Model_zoneOf_20 : decode prog_11_method_61_code 20 = .ok (.aload_n 0, 1) := by decide +kernel
theorem d_Model_zoneOf_21 : decode prog_11_method_61_code 21 = .ok (.getfield 37, 3) := by decide +kernel
theorem d_Model_zoneOf_24 : decode prog_11_method_61_code 24 = .ok (.iload_n 1, 1) := by decide +kernel
theorem d_Model_zoneOf_25 : decode prog_11_method_61_code 25 = .ok (.iaload, 1) := by decide +kernel
theorem d_Model_zoneOf_26 : decode prog_11_method_61_code 26 = .ok (.istore_n 2, 1) := by decide +kernel
theorem d_Model_zoneOf_27 : decode prog_11_method_61_code 27 = .ok (.aload_n 0, 1) := by decide +kernel
theorem d_Model_zoneOf_28 : decode prog_11_method_61_code 28 = .ok (.iload_n 1, 1) := by decide +kernel
theorem d_Model_zoneOf_29 : decode prog_11_method_61_code 29 = .ok (.invokevirtual 268, 3) := by decide +kernel
theorem d_Model_zoneOf_32 : decode prog_11_method_61_code 32 = .ok (.istore_n 3, 1) := by decide +kernel
theorem d_Model_zoneOf_33 : decode prog_11_method_61_code 33 = .ok (.aload_n 0, 1) := by decide +kernel
theorem d_Model_zoneOf_34 : decode prog_11_method_61_code 34 = .ok (.getfield 43, 3) := by decide +kernel
theorem d_Model_zoneOf_37 : decode prog_11_method_61_code 37 = .ok (.iload_n 2, 1) := by decide +kernel
theorem d_Model_zoneOf_38 : decode prog_11_method_61_code 38 = .ok (.iaload, 1) := by decide +kernel
theorem d_Model_zoneOf_39 : decode prog_11_method_61_code 39 = .ok (.bipush 43, 2) := by decide +kernel
theorem d_Model_zoneOf_41 : decode prog_11_method_61_code 41 = .ok (.if_icmp .ne 7, 3) := by decide +kernel
theorem d_Model_zoneOf_44 : decode prog_11_method_61_code 44 = .ok (.iconst 1, 1) := by decide +kernel
theorem d_Model_zoneOf_45 : decode prog_11_method_61_code 45 = .ok (.goto 4, 3) := by decide +kernel
theorem d_Model_zoneOf_48 : decode prog_11_method_61_code 48 = .ok (.iconst 0, 1) := by decide +kernel
theorem d_Model_zoneOf_49 : decode prog_11_method_61_code 49 = .ok (.istore 4, 2) := by decide +kernel
theorem d_Model_zoneOf_51 : decode prog_11_method_61_code 51 = .ok (.iload_n 3, 1) := by decide +kernel
theorem d_Model_zoneOf_52 : decode prog_11_method_61_code 52 = .ok (.iconst 5, 1) := by decide +kernel
theorem d_Model_zoneOf_53 : decode prog_11_method_61_code 53 = .ok (.if_icmp .ne 113, 3) := by decide +kernel
theorem d_Model_zoneOf_56 : decode prog_11_method_61_code 56 = .ok (.iload 4, 2) := by decide +kernel
theorem d_Model_zoneOf_58 : decode prog_11_method_61_code 58 = .ok (.ifCond .ne 14, 3) := by decide +kernel
theorem d_Model_zoneOf_61 : decode prog_11_method_61_code 61 = .ok (.aload_n 0, 1) := by decide +kernel
theorem d_Model_zoneOf_62 : decode prog_11_method_61_code 62 = .ok (.getfield 43, 3) := by decide +kernel
theorem d_Model_zoneOf_65 : decode prog_11_method_61_code 65 = .ok (.iload_n 2, 1) := by decide +kernel
theorem d_Model_zoneOf_66 : decode prog_11_method_61_code 66 = .ok (.iaload, 1) := by decide +kernel
theorem d_Model_zoneOf_67 : decode prog_11_method_61_code 67 = .ok (.bipush 45, 2) := by decide +kernel
theorem d_Model_zoneOf_69 : decode prog_11_method_61_code 69 = .ok (.if_icmp .ne 97, 3) := by decide +kernel
theorem d_Model_zoneOf_72 : decode prog_11_method_61_code 72 = .ok (.iconst 1, 1) := by decide +kernel
theorem d_Model_zoneOf_73 : decode prog_11_method_61_code 73 = .ok (.istore 5, 2) := by decide +kernel
theorem d_Model_zoneOf_75 : decode prog_11_method_61_code 75 = .ok (.iload 5, 2) := by decide +kernel
theorem d_Model_zoneOf_77 : decode prog_11_method_61_code 77 = .ok (.iconst 5, 1) := by decide +kernel
theorem d_Model_zoneOf_78 : decode prog_11_method_61_code 78 = .ok (.if_icmp .ge 26, 3) := by decide +kernel
theorem d_Model_zoneOf_81 : decode prog_11_method_61_code 81 = .ok (.aload_n 0, 1) := by decide +kernel
theorem d_Model_zoneOf_82 : decode prog_11_method_61_code 82 = .ok (.getfield 43, 3) := by decide +kernel
theorem d_Model_zoneOf_85 : decode prog_11_method_61_code 85 = .ok (.iload_n 2, 1) := by decide +kernel
theorem d_Model_zoneOf_86 : decode prog_11_method_61_code 86 = .ok (.iload 5, 2) := by decide +kernel
theorem d_Model_zoneOf_88 : decode prog_11_method_61_code 88 = .ok (.iadd, 1) := by decide +kernel
theorem d_Model_zoneOf_89 : decode prog_11_method_61_code 89 = .ok (.iaload, 1) := by decide +kernel
theorem d_Model_zoneOf_90 : decode prog_11_method_61_code 90 = .ok (.invokestatic 271, 3) := by decide +kernel
theorem d_Model_zoneOf_93 : decode prog_11_method_61_code 93 = .ok (.ifCond .ne 5, 3) := by decide +kernel
theorem d_Model_zoneOf_96 : decode prog_11_method_61_code 96 = .ok (.iconst 0, 1) := by decide +kernel
theorem d_Model_zoneOf_97 : decode prog_11_method_61_code 97 = .ok (.ireturn, 1) := by decide +kernel
theorem d_Model_zoneOf_98 : decode prog_11_method_61_code 98 = .ok (.iinc 5 1, 3) := by decide +kernel
theorem d_Model_zoneOf_101 : decode prog_11_method_61_code 101 = .ok (.goto (-26), 3) := by decide +kernel
theorem d_Model_zoneOf_104 : decode prog_11_method_61_code 104 = .ok (.aload_n 0, 1) := by decide +kernel
theorem d_Model_zoneOf_105 : decode prog_11_method_61_code 105 = .ok (.iload_n 2, 1) := by decide +kernel
theorem d_Model_zoneOf_106 : decode prog_11_method_61_code 106 = .ok (.iconst 1, 1) := by decide +kernel
theorem d_Model_zoneOf_107 : decode prog_11_method_61_code 107 = .ok (.iadd, 1) := by decide +kernel
theorem d_Model_zoneOf_108 : decode prog_11_method_61_code 108 = .ok (.iload_n 2, 1) := by decide +kernel
theorem d_Model_zoneOf_109 : decode prog_11_method_61_code 109 = .ok (.iconst 3, 1) := by decide +kernel
theorem d_Model_zoneOf_110 : decode prog_11_method_61_code 110 = .ok (.iadd, 1) := by decide +kernel
theorem d_Model_zoneOf_111 : decode prog_11_method_61_code 111 = .ok (.invokevirtual 275, 3) := by decide +kernel
theorem d_Model_zoneOf_114 : decode prog_11_method_61_code 114 = .ok (.istore 5, 2) := by decide +kernel
theorem d_Model_zoneOf_116 : decode prog_11_method_61_code 116 = .ok (.aload_n 0, 1) := by decide +kernel
theorem d_Model_zoneOf_117 : decode prog_11_method_61_code 117 = .ok (.iload_n 2, 1) := by decide +kernel
theorem d_Model_zoneOf_118 : decode prog_11_method_61_code 118 = .ok (.iconst 3, 1) := by decide +kernel
theorem d_Model_zoneOf_119 : decode prog_11_method_61_code 119 = .ok (.iadd, 1) := by decide +kernel
theorem d_Model_zoneOf_120 : decode prog_11_method_61_code 120 = .ok (.iload_n 2, 1) := by decide +kernel
theorem d_Model_zoneOf_121 : decode prog_11_method_61_code 121 = .ok (.iconst 5, 1) := by decide +kernel
theorem d_Model_zoneOf_122 : decode prog_11_method_61_code 122 = .ok (.iadd, 1) := by decide +kernel
theorem d_Model_zoneOf_123 : decode prog_11_method_61_code 123 = .ok (.invokevirtual 275, 3) := by decide +kernel
theorem d_Model_zoneOf_126 : decode prog_11_method_61_code 126 = .ok (.istore 6, 2) := by decide +kernel
theorem d_Model_zoneOf_128 : decode prog_11_method_61_code 128 = .ok (.iload 5, 2) := by decide +kernel
theorem d_Model_zoneOf_130 : decode prog_11_method_61_code 130 = .ok (.bipush 23, 2) := by decide +kernel
theorem d_Model_zoneOf_132 : decode prog_11_method_61_code 132 = .ok (.if_icmp .gt 10, 3) := by decide +kernel
theorem d_Model_zoneOf_135 : decode prog_11_method_61_code 135 = .ok (.iload 6, 2) := by decide +kernel
theorem d_Model_zoneOf_137 : decode prog_11_method_61_code 137 = .ok (.bipush 59, 2) := by decide +kernel
theorem d_Model_zoneOf_139 : decode prog_11_method_61_code 139 = .ok (.if_icmp .le 5, 3) := by decide +kernel
theorem d_Model_zoneOf_142 : decode prog_11_method_61_code 142 = .ok (.iconst 0, 1) := by decide +kernel
theorem d_Model_zoneOf_143 : decode prog_11_method_61_code 143 = .ok (.ireturn, 1) := by decide +kernel
theorem d_Model_zoneOf_144 : decode prog_11_method_61_code 144 = .ok (.iload 4, 2) := by decide +kernel
theorem d_Model_zoneOf_146 : decode prog_11_method_61_code 146 = .ok (.ifCond .eq 8, 3) := by decide +kernel
theorem d_Model_zoneOf_149 : decode prog_11_method_61_code 149 = .ok (.bipush 60, 2) := by decide +kernel
theorem d_Model_zoneOf_151 : decode prog_11_method_61_code 151 = .ok (.goto 5, 3) := by decide +kernel
theorem d_Model_zoneOf_154 : decode prog_11_method_61_code 154 = .ok (.bipush (-60), 2) := by decide +kernel
theorem d_Model_zoneOf_156 : decode prog_11_method_61_code 156 = .ok (.bipush 60, 2) := by decide +kernel
theorem d_Model_zoneOf_158 : decode prog_11_method_61_code 158 = .ok (.iload 5, 2) := by decide +kernel
theorem d_Model_zoneOf_160 : decode prog_11_method_61_code 160 = .ok (.imul, 1) := by decide +kernel
theorem d_Model_zoneOf_161 : decode prog_11_method_61_code 161 = .ok (.iload 6, 2) := by decide +kernel
theorem d_Model_zoneOf_163 : decode prog_11_method_61_code 163 = .ok (.iadd, 1) := by decide +kernel
theorem d_Model_zoneOf_164 : decode prog_11_method_61_code 164 = .ok (.imul, 1) := by decide +kernel
theorem d_Model_zoneOf_165 : decode prog_11_method_61_code 165 = .ok (.ireturn, 1) := by decide +kernel
theorem d_Model_zoneOf_166 : decode prog_11_method_61_code 166 = .ok (.iload_n 3, 1) := by decide +kernel
theorem d_Model_zoneOf_167 : decode prog_11_method_61_code 167 = .ok (.iconst 3, 1) := by decide +kernel
theorem d_Model_zoneOf_168 : decode prog_11_method_61_code 168 = .ok (.if_icmp .eq 5, 3) := by decide +kernel
theorem d_Model_zoneOf_171 : decode prog_11_method_61_code 171 = .ok (.iconst 0, 1) := by decide +kernel
theorem d_Model_zoneOf_172 : decode prog_11_method_61_code 172 = .ok (.ireturn, 1) := by decide +kernel
theorem d_Model_zoneOf_173 : decode prog_11_method_61_code 173 = .ok (.aload_n 0, 1) := by decide +kernel
theorem d_Model_zoneOf_174 : decode prog_11_method_61_code 174 = .ok (.iload_n 1, 1) := by decide +kernel
theorem d_Model_zoneOf_175 : decode prog_11_method_61_code 175 = .ok (.iconst 0, 1) := by decide +kernel
theorem d_Model_zoneOf_176 : decode prog_11_method_61_code 176 = .ok (.ldc_w 303, 3) := by decide +kernel
theorem d_Model_zoneOf_179 : decode prog_11_method_61_code 179 = .ok (.invokevirtual 279, 3) := by decide +kernel
theorem d_Model_zoneOf_182 : decode prog_11_method_61_code 182 = .ok (.ifCond .eq 8, 3) := by decide +kernel
theorem d_Model_zoneOf_185 : decode prog_11_method_61_code 185 = .ok (.bipush (-4), 2) := by decide +kernel
theorem d_Model_zoneOf_187 : decode prog_11_method_61_code 187 = .ok (.goto 108, 3) := by decide +kernel
theorem d_Model_zoneOf_190 : decode prog_11_method_61_code 190 = .ok (.aload_n 0, 1) := by decide +kernel
theorem d_Model_zoneOf_191 : decode prog_11_method_61_code 191 = .ok (.iload_n 1, 1) := by decide +kernel
theorem d_Model_zoneOf_192 : decode prog_11_method_61_code 192 = .ok (.iconst 0, 1) := by decide +kernel
theorem d_Model_zoneOf_193 : decode prog_11_method_61_code 193 = .ok (.ldc_w 304, 3) := by decide +kernel
theorem d_Model_zoneOf_196 : decode prog_11_method_61_code 196 = .ok (.invokevirtual 279, 3) := by decide +kernel
theorem d_Model_zoneOf_199 : decode prog_11_method_61_code 199 = .ok (.ifCond .ne 15, 3) := by decide +kernel
theorem d_Model_zoneOf_202 : decode prog_11_method_61_code 202 = .ok (.aload_n 0, 1) := by decide +kernel
theorem d_Model_zoneOf_203 : decode prog_11_method_61_code 203 = .ok (.iload_n 1, 1) := by decide +kernel
theorem d_Model_zoneOf_204 : decode prog_11_method_61_code 204 = .ok (.iconst 0, 1) := by decide +kernel
theorem d_Model_zoneOf_205 : decode prog_11_method_61_code 205 = .ok (.ldc_w 305, 3) := by decide +kernel
theorem d_Model_zoneOf_208 : decode prog_11_method_61_code 208 = .ok (.invokevirtual 279, 3) := by decide +kernel
theorem d_Model_zoneOf_211 : decode prog_11_method_61_code 211 = .ok (.ifCond .eq 8, 3) := by decide +kernel
theorem d_Model_zoneOf_214 : decode prog_11_method_61_code 214 = .ok (.bipush (-5), 2) := by decide +kernel
theorem d_Model_zoneOf_216 : decode prog_11_method_61_code 216 = .ok (.goto 79, 3) := by decide +kernel
theorem d_Model_zoneOf_219 : decode prog_11_method_61_code 219 = .ok (.aload_n 0, 1) := by decide +kernel
theorem d_Model_zoneOf_220 : decode prog_11_method_61_code 220 = .ok (.iload_n 1, 1) := by decide +kernel
theorem d_Model_zoneOf_221 : decode prog_11_method_61_code 221 = .ok (.iconst 0, 1) := by decide +kernel
theorem d_Model_zoneOf_222 : decode prog_11_method_61_code 222 = .ok (.ldc_w 306, 3) := by decide +kernel
theorem d_Model_zoneOf_225 : decode prog_11_method_61_code 225 = .ok (.invokevirtual 279, 3) := by decide +kernel
theorem d_Model_zoneOf_228 : decode prog_11_method_61_code 228 = .ok (.ifCond .ne 15, 3) := by decide +kernel
theorem d_Model_zoneOf_231 : decode prog_11_method_61_code 231 = .ok (.aload_n 0, 1) := by decide +kernel
theorem d_Model_zoneOf_232 : decode prog_11_method_61_code 232 = .ok (.iload_n 1, 1) := by decide +kernel
theorem d_Model_zoneOf_233 : decode prog_11_method_61_code 233 = .ok (.iconst 0, 1) := by decide +kernel
theorem d_Model_zoneOf_234 : decode prog_11_method_61_code 234 = .ok (.ldc_w 307, 3) := by decide +kernel
theorem d_Model_zoneOf_237 : decode prog_11_method_61_code 237 = .ok (.invokevirtual 279, 3) := by decide +kernel
theorem d_Model_zoneOf_240 : decode prog_11_method_61_code 240 = .ok (.ifCond .eq 8, 3) := by decide +kernel
theorem d_Model_zoneOf_243 : decode prog_11_method_61_code 243 = .ok (.bipush (-6), 2) := by decide +kernel
theorem d_Model_zoneOf_245 : decode prog_11_method_61_code 245 = .ok (.goto 50, 3) := by decide +kernel
theorem d_Model_zoneOf_248 : decode prog_11_method_61_code 248 = .ok (.aload_n 0, 1) := by decide +kernel
theorem d_Model_zoneOf_249 : decode prog_11_method_61_code 249 = .ok (.iload_n 1, 1) := by decide +kernel
theorem d_Model_zoneOf_250 : decode prog_11_method_61_code 250 = .ok (.iconst 0, 1) := by decide +kernel
theorem d_Model_zoneOf_251 : decode prog_11_method_61_code 251 = .ok (.ldc_w 308, 3) := by decide +kernel
theorem d_Model_zoneOf_254 : decode prog_11_method_61_code 254 = .ok (.invokevirtual 279, 3) := by decide +kernel
theorem d_Model_zoneOf_257 : decode prog_11_method_61_code 257 = .ok (.ifCond .ne 15, 3) := by decide +kernel
theorem d_Model_zoneOf_260 : decode prog_11_method_61_code 260 = .ok (.aload_n 0, 1) := by decide +kernel
theorem d_Model_zoneOf_261 : decode prog_11_method_61_code 261 = .ok (.iload_n 1, 1) := by decide +kernel
theorem d_Model_zoneOf_262 : decode prog_11_method_61_code 262 = .ok (.iconst 0, 1) := by decide +kernel
theorem d_Model_zoneOf_263 : decode prog_11_method_61_code 263 = .ok (.ldc_w 309, 3) := by decide +kernel
theorem d_Model_zoneOf_266 : decode prog_11_method_61_code 266 = .ok (.invokevirtual 279, 3) := by decide +kernel
theorem d_Model_zoneOf_269 : decode prog_11_method_61_code 269 = .ok (.ifCond .eq 8, 3) := by decide +kernel
theorem d_Model_zoneOf_272 : decode prog_11_method_61_code 272 = .ok (.bipush (-7), 2) := by decide +kernel
theorem d_Model_zoneOf_274 : decode prog_11_method_61_code 274 = .ok (.goto 21, 3) := by decide +kernel
theorem d_Model_zoneOf_277 : decode prog_11_method_61_code 277 = .ok (.aload_n 0, 1) := by decide +kernel
theorem d_Model_zoneOf_278 : decode prog_11_method_61_code 278 = .ok (.iload_n 1, 1) := by decide +kernel
theorem d_Model_zoneOf_279 : decode prog_11_method_61_code 279 = .ok (.iconst 0, 1) := by decide +kernel
theorem d_Model_zoneOf_280 : decode prog_11_method_61_code 280 = .ok (.ldc_w 310, 3) := by decide +kernel
theorem d_Model_zoneOf_283 : decode prog_11_method_61_code 283 = .ok (.invokevirtual 279, 3) := by decide +kernel
theorem d_Model_zoneOf_286 : decode prog_11_method_61_code 286 = .ok (.ifCond .eq 8, 3) := by decide +kernel
theorem d_Model_zoneOf_289 : decode prog_11_method_61_code 289 = .ok (.bipush (-8), 2) := by decide +kernel
theorem d_Model_zoneOf_291 : decode prog_11_method_61_code 291 = .ok (.goto 4, 3) := by decide +kernel
theorem d_Model_zoneOf_294 : decode prog_11_method_61_code 294 = .ok (.iconst 0, 1) := by decide +kernel
theorem d_Model_zoneOf_295 : decode prog_11_method_61_code 295 = .ok (.istore 5, 2) := by decide +kernel
theorem d_Model_zoneOf_297 : decode prog_11_method_61_code 297 = .ok (.sipush 3600, 3) := by decide +kernel
theorem d_Model_zoneOf_300 : decode prog_11_method_61_code 300 = .ok (.iload 5, 2) := by decide +kernel
theorem d_Model_zoneOf_302 : decode prog_11_method_61_code 302 = .ok (.imul, 1) := by decide +kernel
theorem d_Model_zoneOf_303 : decode prog_11_method_61_code 303 = .ok (.ireturn, 1) := by decide +kernel
theorem d_Model_monthOf_0 : decode prog_11_method_57_code 0 = .ok (.iload_n 1, 1) := by decide +kernel
theorem d_Model_monthOf_1 : decode prog_11_method_57_code 1 = .ok (.aload_n 0, 1) := by decide +kernel
theorem d_Model_monthOf_2 : decode prog_11_method_57_code 2 = .ok (.getfield 149, 3) := by decide +kernel
theorem d_Model_monthOf_5 : decode prog_11_method_57_code 5 = .ok (.if_icmp .ge 22, 3) := by decide +kernel
theorem d_Model_monthOf_8 : decode prog_11_method_57_code 8 = .ok (.aload_n 0, 1) := by decide +kernel
theorem d_Model_monthOf_9 : decode prog_11_method_57_code 9 = .ok (.getfield 31, 3) := by decide +kernel
theorem d_Model_monthOf_12 : decode prog_11_method_57_code 12 = .ok (.iload_n 1, 1) := by decide +kernel
theorem d_Model_monthOf_13 : decode prog_11_method_57_code 13 = .ok (.iaload, 1) := by decide +kernel
theorem d_Model_monthOf_14 : decode prog_11_method_57_code 14 = .ok (.iconst 4, 1) := by decide +kernel
theorem d_Model_monthOf_15 : decode prog_11_method_57_code 15 = .ok (.if_icmp .ne 12, 3) := by decide +kernel
theorem d_Model_monthOf_18 : decode prog_11_method_57_code 18 = .ok (.aload_n 0, 1) := by decide +kernel
theorem d_Model_monthOf_19 : decode prog_11_method_57_code 19 = .ok (.iload_n 1, 1) := by decide +kernel
theorem d_Model_monthOf_20 : decode prog_11_method_57_code 20 = .ok (.invokevirtual 268, 3) := by decide +kernel
theorem d_Model_monthOf_23 : decode prog_11_method_57_code 23 = .ok (.iconst 3, 1) := by decide +kernel
theorem d_Model_monthOf_24 : decode prog_11_method_57_code 24 = .ok (.if_icmp .ge 5, 3) := by decide +kernel
theorem d_Model_monthOf_27 : decode prog_11_method_57_code 27 = .ok (.iconst 0, 1) := by decide +kernel
theorem d_Model_monthOf_28 : decode prog_11_method_57_code 28 = .ok (.ireturn, 1) := by decide +kernel
theorem d_Model_monthOf_29 : decode prog_11_method_57_code 29 = .ok (.aload_n 0, 1) := by decide +kernel
theorem d_Model_monthOf_30 : decode prog_11_method_57_code 30 = .ok (.iload_n 1, 1) := by decide +kernel
theorem d_Model_monthOf_31 : decode prog_11_method_57_code 31 = .ok (.iconst 0, 1) := by decide +kernel
theorem d_Model_monthOf_32 : decode prog_11_method_57_code 32 = .ok (.ldc_w 278, 3) := by decide +kernel
theorem d_Model_monthOf_35 : decode prog_11_method_57_code 35 = .ok (.invokevirtual 279, 3) := by decide +kernel
theorem d_Model_monthOf_38 : decode prog_11_method_57_code 38 = .ok (.ifCond .eq 5, 3) := by decide +kernel
theorem d_Model_monthOf_41 : decode prog_11_method_57_code 41 = .ok (.iconst 1, 1) := by decide +kernel
theorem d_Model_monthOf_42 : decode prog_11_method_57_code 42 = .ok (.ireturn, 1) := by decide +kernel
theorem d_Model_monthOf_43 : decode prog_11_method_57_code 43 = .ok (.aload_n 0, 1) := by decide +kernel
theorem d_Model_monthOf_44 : decode prog_11_method_57_code 44 = .ok (.iload_n 1, 1) := by decide +kernel
theorem d_Model_monthOf_45 : decode prog_11_method_57_code 45 = .ok (.iconst 0, 1) := by decide +kernel
theorem d_Model_monthOf_46 : decode prog_11_method_57_code 46 = .ok (.ldc_w 283, 3) := by decide +kernel
theorem d_Model_monthOf_49 : decode prog_11_method_57_code 49 = .ok (.invokevirtual 279, 3) := by decide +kernel
theorem d_Model_monthOf_52 : decode prog_11_method_57_code 52 = .ok (.ifCond .eq 5, 3) := by decide +kernel
theorem d_Model_monthOf_55 : decode prog_11_method_57_code 55 = .ok (.iconst 2, 1) := by decide +kernel
theorem d_Model_monthOf_56 : decode prog_11_method_57_code 56 = .ok (.ireturn, 1) := by decide +kernel
theorem d_Model_monthOf_57 : decode prog_11_method_57_code 57 = .ok (.aload_n 0, 1) := by decide +kernel
theorem d_Model_monthOf_58 : decode prog_11_method_57_code 58 = .ok (.iload_n 1, 1) := by decide +kernel
theorem d_Model_monthOf_59 : decode prog_11_method_57_code 59 = .ok (.iconst 0, 1) := by decide +kernel
theorem d_Model_monthOf_60 : decode prog_11_method_57_code 60 = .ok (.ldc_w 284, 3) := by decide +kernel
theorem d_Model_monthOf_63 : decode prog_11_method_57_code 63 = .ok (.invokevirtual 279, 3) := by decide +kernel
theorem d_Model_monthOf_66 : decode prog_11_method_57_code 66 = .ok (.ifCond .eq 5, 3) := by decide +kernel
theorem d_Model_monthOf_69 : decode prog_11_method_57_code 69 = .ok (.iconst 3, 1) := by decide +kernel
theorem d_Model_monthOf_70 : decode prog_11_method_57_code 70 = .ok (.ireturn, 1) := by decide +kernel
theorem d_Model_monthOf_71 : decode prog_11_method_57_code 71 = .ok (.aload_n 0, 1) := by decide +kernel
theorem d_Model_monthOf_72 : decode prog_11_method_57_code 72 = .ok (.iload_n 1, 1) := by decide +kernel
theorem d_Model_monthOf_73 : decode prog_11_method_57_code 73 = .ok (.iconst 0, 1) := by decide +kernel
theorem d_Model_monthOf_74 : decode prog_11_method_57_code 74 = .ok (.ldc_w 285, 3) := by decide +kernel
theorem d_Model_monthOf_77 : decode prog_11_method_57_code 77 = .ok (.invokevirtual 279, 3) := by decide +kernel
theorem d_Model_monthOf_80 : decode prog_11_method_57_code 80 = .ok (.ifCond .eq 5, 3) := by decide +kernel
theorem d_Model_monthOf_83 : decode prog_11_method_57_code 83 = .ok (.iconst 4, 1) := by decide +kernel
theorem d_Model_monthOf_84 : decode prog_11_method_57_code 84 = .ok (.ireturn, 1) := by decide +kernel
theorem d_Model_monthOf_85 : decode prog_11_method_57_code 85 = .ok (.aload_n 0, 1) := by decide +kernel
theorem d_Model_monthOf_86 : decode prog_11_method_57_code 86 = .ok (.iload_n 1, 1) := by decide +kernel
theorem d_Model_monthOf_87 : decode prog_11_method_57_code 87 = .ok (.iconst 0, 1) := by decide +kernel
theorem d_Model_monthOf_88 : decode prog_11_method_57_code 88 = .ok (.ldc_w 286, 3) := by decide +kernel
theorem d_Model_monthOf_91 : decode prog_11_method_57_code 91 = .ok (.invokevirtual 279, 3) := by decide +kernel
theorem d_Model_monthOf_94 : decode prog_11_method_57_code 94 = .ok (.ifCond .eq 5, 3) := by decide +kernel
theorem d_Model_monthOf_97 : decode prog_11_method_57_code 97 = .ok (.iconst 5, 1) := by decide +kernel
theorem d_Model_monthOf_98 : decode prog_11_method_57_code 98 = .ok (.ireturn, 1) := by decide +kernel
theorem d_Model_monthOf_99 : decode prog_11_method_57_code 99 = .ok (.aload_n 0, 1) := by decide +kernel
theorem d_Model_monthOf_100 : decode prog_11_method_57_code 100 = .ok (.iload_n 1, 1) := by decide +kernel
theorem d_Model_monthOf_101 : decode prog_11_method_57_code 101 = .ok (.iconst 0, 1) := by decide +kernel
theorem d_Model_monthOf_102 : decode prog_11_method_57_code 102 = .ok (.ldc_w 287, 3) := by decide +kernel
theorem d_Model_monthOf_105 : decode prog_11_method_57_code 105 = .ok (.invokevirtual 279, 3) := by decide +kernel
theorem d_Model_monthOf_108 : decode prog_11_method_57_code 108 = .ok (.ifCond .eq 6, 3) := by decide +kernel
theorem d_Model_monthOf_111 : decode prog_11_method_57_code 111 = .ok (.bipush 6, 2) := by decide +kernel
theorem d_Model_monthOf_113 : decode prog_11_method_57_code 113 = .ok (.ireturn, 1) := by decide +kernel
theorem d_Model_monthOf_114 : decode prog_11_method_57_code 114 = .ok (.aload_n 0, 1) := by decide +kernel
theorem d_Model_monthOf_115 : decode prog_11_method_57_code 115 = .ok (.iload_n 1, 1) := by decide +kernel
theorem d_Model_monthOf_116 : decode prog_11_method_57_code 116 = .ok (.iconst 0, 1) := by decide +kernel
theorem d_Model_monthOf_117 : decode prog_11_method_57_code 117 = .ok (.ldc_w 288, 3) := by decide +kernel
theorem d_Model_monthOf_120 : decode prog_11_method_57_code 120 = .ok (.invokevirtual 279, 3) := by decide +kernel
theorem d_Model_monthOf_123 : decode prog_11_method_57_code 123 = .ok (.ifCond .eq 6, 3) := by decide +kernel
theorem d_Model_monthOf_126 : decode prog_11_method_57_code 126 = .ok (.bipush 7, 2) := by decide +kernel
theorem d_Model_monthOf_128 : decode prog_11_method_57_code 128 = .ok (.ireturn, 1) := by decide +kernel
theorem d_Model_monthOf_129 : decode prog_11_method_57_code 129 = .ok (.aload_n 0, 1) := by decide +kernel
theorem d_Model_monthOf_130 : decode prog_11_method_57_code 130 = .ok (.iload_n 1, 1) := by decide +kernel
theorem d_Model_monthOf_131 : decode prog_11_method_57_code 131 = .ok (.iconst 0, 1) := by decide +kernel
theorem d_Model_monthOf_132 : decode prog_11_method_57_code 132 = .ok (.ldc_w 289, 3) := by decide +kernel
theorem d_Model_monthOf_135 : decode prog_11_method_57_code 135 = .ok (.invokevirtual 279, 3) := by decide +kernel
theorem d_Model_monthOf_138 : decode prog_11_method_57_code 138 = .ok (.ifCond .eq 6, 3) := by decide +kernel
theorem d_Model_monthOf_141 : decode prog_11_method_57_code 141 = .ok (.bipush 8, 2) := by decide +kernel
theorem d_Model_monthOf_143 : decode prog_11_method_57_code 143 = .ok (.ireturn, 1) := by decide +kernel
theorem d_Model_monthOf_144 : decode prog_11_method_57_code 144 = .ok (.aload_n 0, 1) := by decide +kernel
theorem d_Model_monthOf_145 : decode prog_11_method_57_code 145 = .ok (.iload_n 1, 1) := by decide +kernel
theorem d_Model_monthOf_146 : decode prog_11_method_57_code 146 = .ok (.iconst 0, 1) := by decide +kernel
theorem d_Model_monthOf_147 : decode prog_11_method_57_code 147 = .ok (.ldc_w 290, 3) := by decide +kernel
theorem d_Model_monthOf_150 : decode prog_11_method_57_code 150 = .ok (.invokevirtual 279, 3) := by decide +kernel
theorem d_Model_monthOf_153 : decode prog_11_method_57_code 153 = .ok (.ifCond .eq 6, 3) := by decide +kernel
theorem d_Model_monthOf_156 : decode prog_11_method_57_code 156 = .ok (.bipush 9, 2) := by decide +kernel
theorem d_Model_monthOf_158 : decode prog_11_method_57_code 158 = .ok (.ireturn, 1) := by decide +kernel
theorem d_Model_monthOf_159 : decode prog_11_method_57_code 159 = .ok (.aload_n 0, 1) := by decide +kernel
theorem d_Model_monthOf_160 : decode prog_11_method_57_code 160 = .ok (.iload_n 1, 1) := by decide +kernel
theorem d_Model_monthOf_161 : decode prog_11_method_57_code 161 = .ok (.iconst 0, 1) := by decide +kernel
theorem d_Model_monthOf_162 : decode prog_11_method_57_code 162 = .ok (.ldc_w 291, 3) := by decide +kernel
theorem d_Model_monthOf_165 : decode prog_11_method_57_code 165 = .ok (.invokevirtual 279, 3) := by decide +kernel
theorem d_Model_monthOf_168 : decode prog_11_method_57_code 168 = .ok (.ifCond .eq 6, 3) := by decide +kernel
theorem d_Model_monthOf_171 : decode prog_11_method_57_code 171 = .ok (.bipush 10, 2) := by decide +kernel
theorem d_Model_monthOf_173 : decode prog_11_method_57_code 173 = .ok (.ireturn, 1) := by decide +kernel
theorem d_Model_monthOf_174 : decode prog_11_method_57_code 174 = .ok (.aload_n 0, 1) := by decide +kernel
theorem d_Model_monthOf_175 : decode prog_11_method_57_code 175 = .ok (.iload_n 1, 1) := by decide +kernel
theorem d_Model_monthOf_176 : decode prog_11_method_57_code 176 = .ok (.iconst 0, 1) := by decide +kernel
theorem d_Model_monthOf_177 : decode prog_11_method_57_code 177 = .ok (.ldc_w 292, 3) := by decide +kernel
theorem d_Model_monthOf_180 : decode prog_11_method_57_code 180 = .ok (.invokevirtual 279, 3) := by decide +kernel
theorem d_Model_monthOf_183 : decode prog_11_method_57_code 183 = .ok (.ifCond .eq 6, 3) := by decide +kernel
theorem d_Model_monthOf_186 : decode prog_11_method_57_code 186 = .ok (.bipush 11, 2) := by decide +kernel
theorem d_Model_monthOf_188 : decode prog_11_method_57_code 188 = .ok (.ireturn, 1) := by decide +kernel
theorem d_Model_monthOf_189 : decode prog_11_method_57_code 189 = .ok (.aload_n 0, 1) := by decide +kernel
theorem d_Model_monthOf_190 : decode prog_11_method_57_code 190 = .ok (.iload_n 1, 1) := by decide +kernel
theorem d_Model_monthOf_191 : decode prog_11_method_57_code 191 = .ok (.iconst 0, 1) := by decide +kernel
theorem d_Model_monthOf_192 : decode prog_11_method_57_code 192 = .ok (.ldc_w 293, 3) := by decide +kernel
theorem d_Model_monthOf_195 : decode prog_11_method_57_code 195 = .ok (.invokevirtual 279, 3) := by decide +kernel
theorem d_Model_monthOf_198 : decode prog_11_method_57_code 198 = .ok (.ifCond .eq 8, 3) := by decide +kernel
theorem d_Model_monthOf_201 : decode prog_11_method_57_code 201 = .ok (.bipush 12, 2) := by decide +kernel
theorem d_Model_monthOf_203 : decode prog_11_method_57_code 203 = .ok (.goto 4, 3) := by decide +kernel
theorem d_Model_monthOf_206 : decode prog_11_method_57_code 206 = .ok (.iconst 0, 1) := by decide +kernel
theorem d_Model_monthOf_207 : decode prog_11_method_57_code 207 = .ok (.ireturn, 1) := by decide +kernel
theorem d_Model_step_0 : decode prog_11_method_51_code 0 = .ok (.aload_n 0, 1) := by decide +kernel
theorem d_Model_step_1 : decode prog_11_method_51_code 1 = .ok (.aload_n 0, 1) := by decide +kernel
theorem d_Model_step_2 : decode prog_11_method_51_code 2 = .ok (.aload_n 0, 1) := by decide +kernel
theorem d_Model_step_3 : decode prog_11_method_51_code 3 = .ok (.getfield 265, 3) := by decide +kernel
theorem d_Model_step_6 : decode prog_11_method_51_code 6 = .ok (.iconst 1, 1) := by decide +kernel
theorem d_Model_step_7 : decode prog_11_method_51_code 7 = .ok (.iadd, 1) := by decide +kernel
theorem d_Model_step_8 : decode prog_11_method_51_code 8 = .ok (.aload_n 0, 1) := by decide +kernel
theorem d_Model_step_9 : decode prog_11_method_51_code 9 = .ok (.getfield 149, 3) := by decide +kernel
theorem d_Model_step_12 : decode prog_11_method_51_code 12 = .ok (.invokevirtual 197, 3) := by decide +kernel
theorem d_Model_step_15 : decode prog_11_method_51_code 15 = .ok (.putfield 265, 3) := by decide +kernel
theorem d_Model_step_18 : decode prog_11_method_51_code 18 = .ok (.return_, 1) := by decide +kernel
theorem d_Model_date_0 : decode prog_11_method_64_code 0 = .ok (.ldc2_w 320, 3) := by decide +kernel
theorem d_Model_date_3 : decode prog_11_method_64_code 3 = .ok (.lstore_n 2, 1) := by decide +kernel
theorem d_Model_date_4 : decode prog_11_method_64_code 4 = .ok (.aload_n 0, 1) := by decide +kernel
theorem d_Model_date_5 : decode prog_11_method_64_code 5 = .ok (.aload_n 0, 1) := by decide +kernel
theorem d_Model_date_6 : decode prog_11_method_64_code 6 = .ok (.iload_n 1, 1) := by decide +kernel
theorem d_Model_date_7 : decode prog_11_method_64_code 7 = .ok (.invokevirtual 137, 3) := by decide +kernel
theorem d_Model_date_10 : decode prog_11_method_64_code 10 = .ok (.ifCond .eq 7, 3) := by decide +kernel
theorem d_Model_date_13 : decode prog_11_method_64_code 13 = .ok (.iconst 0, 1) := by decide +kernel
theorem d_Model_date_14 : decode prog_11_method_64_code 14 = .ok (.goto 4, 3) := by decide +kernel
theorem d_Model_date_17 : decode prog_11_method_64_code 17 = .ok (.iconst 1, 1) := by decide +kernel
theorem d_Model_date_18 : decode prog_11_method_64_code 18 = .ok (.putfield 99, 3) := by decide +kernel
theorem d_Model_date_21 : decode prog_11_method_64_code 21 = .ok (.aload_n 0, 1) := by decide +kernel
theorem d_Model_date_22 : decode prog_11_method_64_code 22 = .ok (.getfield 99, 3) := by decide +kernel
theorem d_Model_date_25 : decode prog_11_method_64_code 25 = .ok (.ifCond .eq 5, 3) := by decide +kernel
theorem d_Model_date_28 : decode prog_11_method_64_code 28 = .ok (.lconst 0, 1) := by decide +kernel
theorem d_Model_date_29 : decode prog_11_method_64_code 29 = .ok (.lreturn, 1) := by decide +kernel
theorem d_Model_date_30 : decode prog_11_method_64_code 30 = .ok (.aload_n 0, 1) := by decide +kernel
theorem d_Model_date_31 : decode prog_11_method_64_code 31 = .ok (.iload_n 1, 1) := by decide +kernel
theorem d_Model_date_32 : decode prog_11_method_64_code 32 = .ok (.iconst 0, 1) := by decide +kernel
theorem d_Model_date_33 : decode prog_11_method_64_code 33 = .ok (.invokevirtual 251, 3) := by decide +kernel
theorem d_Model_date_36 : decode prog_11_method_64_code 36 = .ok (.aload_n 0, 1) := by decide +kernel
theorem d_Model_date_37 : decode prog_11_method_64_code 37 = .ok (.aload_n 0, 1) := by decide +kernel
theorem d_Model_date_38 : decode prog_11_method_64_code 38 = .ok (.iconst 0, 1) := by decide +kernel
theorem d_Model_date_39 : decode prog_11_method_64_code 39 = .ok (.aload_n 0, 1) := by decide +kernel
theorem d_Model_date_40 : decode prog_11_method_64_code 40 = .ok (.getfield 149, 3) := by decide +kernel
theorem d_Model_date_43 : decode prog_11_method_64_code 43 = .ok (.invokevirtual 197, 3) := by decide +kernel
theorem d_Model_date_46 : decode prog_11_method_64_code 46 = .ok (.putfield 265, 3) := by decide +kernel
theorem d_Model_date_49 : decode prog_11_method_64_code 49 = .ok (.aload_n 0, 1) := by decide +kernel
theorem d_Model_date_50 : decode prog_11_method_64_code 50 = .ok (.aload_n 0, 1) := by decide +kernel
theorem d_Model_date_51 : decode prog_11_method_64_code 51 = .ok (.getfield 265, 3) := by decide +kernel
theorem d_Model_date_54 : decode prog_11_method_64_code 54 = .ok (.iconst 1, 1) := by decide +kernel
theorem d_Model_date_55 : decode prog_11_method_64_code 55 = .ok (.iadd, 1) := by decide +kernel
theorem d_Model_date_56 : decode prog_11_method_64_code 56 = .ok (.aload_n 0, 1) := by decide +kernel
theorem d_Model_date_57 : decode prog_11_method_64_code 57 = .ok (.getfield 149, 3) := by decide +kernel
theorem d_Model_date_60 : decode prog_11_method_64_code 60 = .ok (.invokevirtual 197, 3) := by decide +kernel
theorem d_Model_date_63 : decode prog_11_method_64_code 63 = .ok (.istore 4, 2) := by decide +kernel
theorem d_Model_date_65 : decode prog_11_method_64_code 65 = .ok (.aload_n 0, 1) := by decide +kernel
theorem d_Model_date_66 : decode prog_11_method_64_code 66 = .ok (.getfield 265, 3) := by decide +kernel
theorem d_Model_date_69 : decode prog_11_method_64_code 69 = .ok (.aload_n 0, 1) := by decide +kernel
theorem d_Model_date_70 : decode prog_11_method_64_code 70 = .ok (.getfield 149, 3) := by decide +kernel
theorem d_Model_date_73 : decode prog_11_method_64_code 73 = .ok (.if_icmp .ge 52, 3) := by decide +kernel
theorem d_Model_date_76 : decode prog_11_method_64_code 76 = .ok (.aload_n 0, 1) := by decide +kernel
theorem d_Model_date_77 : decode prog_11_method_64_code 77 = .ok (.getfield 31, 3) := by decide +kernel
theorem d_Model_date_80 : decode prog_11_method_64_code 80 = .ok (.aload_n 0, 1) := by decide +kernel
theorem d_Model_date_81 : decode prog_11_method_64_code 81 = .ok (.getfield 265, 3) := by decide +kernel
theorem d_Model_date_84 : decode prog_11_method_64_code 84 = .ok (.iaload, 1) := by decide +kernel
theorem d_Model_date_85 : decode prog_11_method_64_code 85 = .ok (.iconst 4, 1) := by decide +kernel
theorem d_Model_date_86 : decode prog_11_method_64_code 86 = .ok (.if_icmp .ne 39, 3) := by decide +kernel
theorem d_Model_date_89 : decode prog_11_method_64_code 89 = .ok (.iload 4, 2) := by decide +kernel
theorem d_Model_date_91 : decode prog_11_method_64_code 91 = .ok (.aload_n 0, 1) := by decide +kernel
theorem d_Model_date_92 : decode prog_11_method_64_code 92 = .ok (.getfield 149, 3) := by decide +kernel
theorem d_Model_date_95 : decode prog_11_method_64_code 95 = .ok (.if_icmp .ge 30, 3) := by decide +kernel
theorem d_Model_date_98 : decode prog_11_method_64_code 98 = .ok (.aload_n 0, 1) := by decide +kernel
theorem d_Model_date_99 : decode prog_11_method_64_code 99 = .ok (.iload 4, 2) := by decide +kernel
theorem d_Model_date_101 : decode prog_11_method_64_code 101 = .ok (.bipush 44, 2) := by decide +kernel
theorem d_Model_date_103 : decode prog_11_method_64_code 103 = .ok (.invokevirtual 200, 3) := by decide +kernel
theorem d_Model_date_106 : decode prog_11_method_64_code 106 = .ok (.ifCond .eq 19, 3) := by decide +kernel
theorem d_Model_date_109 : decode prog_11_method_64_code 109 = .ok (.aload_n 0, 1) := by decide +kernel
theorem d_Model_date_110 : decode prog_11_method_64_code 110 = .ok (.aload_n 0, 1) := by decide +kernel
theorem d_Model_date_111 : decode prog_11_method_64_code 111 = .ok (.iload 4, 2) := by decide +kernel
theorem d_Model_date_113 : decode prog_11_method_64_code 113 = .ok (.iconst 1, 1) := by decide +kernel
theorem d_Model_date_114 : decode prog_11_method_64_code 114 = .ok (.iadd, 1) := by decide +kernel
theorem d_Model_date_115 : decode prog_11_method_64_code 115 = .ok (.aload_n 0, 1) := by decide +kernel
theorem d_Model_date_116 : decode prog_11_method_64_code 116 = .ok (.getfield 149, 3) := by decide +kernel
theorem d_Model_date_119 : decode prog_11_method_64_code 119 = .ok (.invokevirtual 197, 3) := by decide +kernel
theorem d_Model_date_122 : decode prog_11_method_64_code 122 = .ok (.putfield 265, 3) := by decide +kernel
theorem d_Model_date_125 : decode prog_11_method_64_code 125 = .ok (.aload_n 0, 1) := by decide +kernel
theorem d_Model_date_126 : decode prog_11_method_64_code 126 = .ok (.aload_n 0, 1) := by decide +kernel
theorem d_Model_date_127 : decode prog_11_method_64_code 127 = .ok (.getfield 265, 3) := by decide +kernel
theorem d_Model_date_130 : decode prog_11_method_64_code 130 = .ok (.iconst 1, 1) := by decide +kernel
theorem d_Model_date_131 : decode prog_11_method_64_code 131 = .ok (.iconst 2, 1) := by decide +kernel
theorem d_Model_date_132 : decode prog_11_method_64_code 132 = .ok (.invokevirtual 294, 3) := by decide +kernel
theorem d_Model_date_135 : decode prog_11_method_64_code 135 = .ok (.ifCond .eq 14, 3) := by decide +kernel
theorem d_Model_date_138 : decode prog_11_method_64_code 138 = .ok (.aload_n 0, 1) := by decide +kernel
theorem d_Model_date_139 : decode prog_11_method_64_code 139 = .ok (.aload_n 0, 1) := by decide +kernel
theorem d_Model_date_140 : decode prog_11_method_64_code 140 = .ok (.getfield 265, 3) := by decide +kernel
theorem d_Model_date_143 : decode prog_11_method_64_code 143 = .ok (.invokevirtual 297, 3) := by decide +kernel
theorem d_Model_date_146 : decode prog_11_method_64_code 146 = .ok (.goto 4, 3) := by decide +kernel
theorem d_Model_date_149 : decode prog_11_method_64_code 149 = .ok (.iconst 0, 1) := by decide +kernel
theorem d_Model_date_150 : decode prog_11_method_64_code 150 = .ok (.istore 5, 2) := by decide +kernel
theorem d_Model_date_152 : decode prog_11_method_64_code 152 = .ok (.aload_n 0, 1) := by decide +kernel
theorem d_Model_date_153 : decode prog_11_method_64_code 153 = .ok (.invokevirtual 322, 3) := by decide +kernel
theorem d_Model_date_156 : decode prog_11_method_64_code 156 = .ok (.aload_n 0, 1) := by decide +kernel
theorem d_Model_date_157 : decode prog_11_method_64_code 157 = .ok (.aload_n 0, 1) := by decide +kernel
theorem d_Model_date_158 : decode prog_11_method_64_code 158 = .ok (.getfield 265, 3) := by decide +kernel
theorem d_Model_date_161 : decode prog_11_method_64_code 161 = .ok (.invokevirtual 325, 3) := by decide +kernel
theorem d_Model_date_164 : decode prog_11_method_64_code 164 = .ok (.istore 6, 2) := by decide +kernel
theorem d_Model_date_166 : decode prog_11_method_64_code 166 = .ok (.aload_n 0, 1) := by decide +kernel
theorem d_Model_date_167 : decode prog_11_method_64_code 167 = .ok (.invokevirtual 322, 3) := by decide +kernel
theorem d_Model_date_170 : decode prog_11_method_64_code 170 = .ok (.aload_n 0, 1) := by decide +kernel
theorem d_Model_date_171 : decode prog_11_method_64_code 171 = .ok (.aload_n 0, 1) := by decide +kernel
theorem d_Model_date_172 : decode prog_11_method_64_code 172 = .ok (.getfield 265, 3) := by decide +kernel
theorem d_Model_date_175 : decode prog_11_method_64_code 175 = .ok (.invokevirtual 328, 3) := by decide +kernel
theorem d_Model_date_178 : decode prog_11_method_64_code 178 = .ok (.istore 7, 2) := by decide +kernel
theorem d_Model_date_180 : decode prog_11_method_64_code 180 = .ok (.aload_n 0, 1) := by decide +kernel
theorem d_Model_date_181 : decode prog_11_method_64_code 181 = .ok (.invokevirtual 322, 3) := by decide +kernel
theorem d_Model_date_184 : decode prog_11_method_64_code 184 = .ok (.iload 5, 2) := by decide +kernel
theorem d_Model_date_186 : decode prog_11_method_64_code 186 = .ok (.iconst 1, 1) := by decide +kernel
theorem d_Model_date_187 : decode prog_11_method_64_code 187 = .ok (.if_icmp .lt 37, 3) := by decide +kernel
theorem d_Model_date_190 : decode prog_11_method_64_code 190 = .ok (.iload 6, 2) := by decide +kernel
theorem d_Model_date_192 : decode prog_11_method_64_code 192 = .ok (.iconst 1, 1) := by decide +kernel
theorem d_Model_date_193 : decode prog_11_method_64_code 193 = .ok (.if_icmp .lt 31, 3) := by decide +kernel
theorem d_Model_date_196 : decode prog_11_method_64_code 196 = .ok (.iload 7, 2) := by decide +kernel
theorem d_Model_date_198 : decode prog_11_method_64_code 198 = .ok (.sipush 1900, 3) := by decide +kernel
theorem d_Model_date_201 : decode prog_11_method_64_code 201 = .ok (.if_icmp .lt 23, 3) := by decide +kernel
theorem d_Model_date_204 : decode prog_11_method_64_code 204 = .ok (.iload 7, 2) := by decide +kernel
theorem d_Model_date_206 : decode prog_11_method_64_code 206 = .ok (.sipush 2999, 3) := by decide +kernel
theorem d_Model_date_209 : decode prog_11_method_64_code 209 = .ok (.if_icmp .gt 15, 3) := by decide +kernel
theorem d_Model_date_212 : decode prog_11_method_64_code 212 = .ok (.iload 5, 2) := by decide +kernel
theorem d_Model_date_214 : decode prog_11_method_64_code 214 = .ok (.iload 6, 2) := by decide +kernel
theorem d_Model_date_216 : decode prog_11_method_64_code 216 = .ok (.iload 7, 2) := by decide +kernel
theorem d_Model_date_218 : decode prog_11_method_64_code 218 = .ok (.invokestatic 315, 3) := by decide +kernel
theorem d_Model_date_221 : decode prog_11_method_64_code 221 = .ok (.if_icmp .le 5, 3) := by decide +kernel
theorem d_Model_date_224 : decode prog_11_method_64_code 224 = .ok (.lload_n 2, 1) := by decide +kernel
theorem d_Model_date_225 : decode prog_11_method_64_code 225 = .ok (.lreturn, 1) := by decide +kernel
theorem d_Model_date_226 : decode prog_11_method_64_code 226 = .ok (.aload_n 0, 1) := by decide +kernel
theorem d_Model_date_227 : decode prog_11_method_64_code 227 = .ok (.bipush 24, 2) := by decide +kernel
theorem d_Model_date_229 : decode prog_11_method_64_code 229 = .ok (.invokevirtual 331, 3) := by decide +kernel
theorem d_Model_date_232 : decode prog_11_method_64_code 232 = .ok (.istore 8, 2) := by decide +kernel
theorem d_Model_date_234 : decode prog_11_method_64_code 234 = .ok (.aload_n 0, 1) := by decide +kernel
theorem d_Model_date_235 : decode prog_11_method_64_code 235 = .ok (.invokevirtual 322, 3) := by decide +kernel
theorem d_Model_date_238 : decode prog_11_method_64_code 238 = .ok (.aload_n 0, 1) := by decide +kernel
theorem d_Model_date_239 : decode prog_11_method_64_code 239 = .ok (.getfield 265, 3) := by decide +kernel
theorem d_Model_date_242 : decode prog_11_method_64_code 242 = .ok (.aload_n 0, 1) := by decide +kernel
theorem d_Model_date_243 : decode prog_11_method_64_code 243 = .ok (.getfield 149, 3) := by decide +kernel
theorem d_Model_date_246 : decode prog_11_method_64_code 246 = .ok (.if_icmp .ge 20, 3) := by decide +kernel
theorem d_Model_date_249 : decode prog_11_method_64_code 249 = .ok (.aload_n 0, 1) := by decide +kernel
theorem d_Model_date_250 : decode prog_11_method_64_code 250 = .ok (.aload_n 0, 1) := by decide +kernel
theorem d_Model_date_251 : decode prog_11_method_64_code 251 = .ok (.getfield 265, 3) := by decide +kernel
theorem d_Model_date_254 : decode prog_11_method_64_code 254 = .ok (.bipush 58, 2) := by decide +kernel
theorem d_Model_date_256 : decode prog_11_method_64_code 256 = .ok (.invokevirtual 200, 3) := by decide +kernel
theorem d_Model_date_259 : decode prog_11_method_64_code 259 = .ok (.ifCond .eq 7, 3) := by decide +kernel
theorem d_Model_date_262 : decode prog_11_method_64_code 262 = .ok (.iconst 1, 1) := by decide +kernel
theorem d_Model_date_263 : decode prog_11_method_64_code 263 = .ok (.goto 4, 3) := by decide +kernel
theorem d_Model_date_266 : decode prog_11_method_64_code 266 = .ok (.iconst 0, 1) := by decide +kernel
theorem d_Model_date_267 : decode prog_11_method_64_code 267 = .ok (.istore 9, 2) := by decide +kernel
theorem d_Model_date_269 : decode prog_11_method_64_code 269 = .ok (.aload_n 0, 1) := by decide +kernel
theorem d_Model_date_270 : decode prog_11_method_64_code 270 = .ok (.invokevirtual 322, 3) := by decide +kernel
theorem d_Model_date_273 : decode prog_11_method_64_code 273 = .ok (.aload_n 0, 1) := by decide +kernel
theorem d_Model_date_274 : decode prog_11_method_64_code 274 = .ok (.bipush 60, 2) := by decide +kernel
theorem d_Model_date_276 : decode prog_11_method_64_code 276 = .ok (.invokevirtual 331, 3) := by decide +kernel
theorem d_Model_date_279 : decode prog_11_method_64_code 279 = .ok (.istore 10, 2) := by decide +kernel
theorem d_Model_date_281 : decode prog_11_method_64_code 281 = .ok (.aload_n 0, 1) := by decide +kernel
theorem d_Model_date_282 : decode prog_11_method_64_code 282 = .ok (.invokevirtual 322, 3) := by decide +kernel
theorem d_Model_date_285 : decode prog_11_method_64_code 285 = .ok (.iload 8, 2) := by decide +kernel
theorem d_Model_date_287 : decode prog_11_method_64_code 287 = .ok (.ifCond .lt 13, 3) := by decide +kernel
theorem d_Model_date_290 : decode prog_11_method_64_code 290 = .ok (.iload 9, 2) := by decide +kernel
theorem d_Model_date_292 : decode prog_11_method_64_code 292 = .ok (.ifCond .eq 8, 3) := by decide +kernel
theorem d_Model_date_295 : decode prog_11_method_64_code 295 = .ok (.iload 10, 2) := by decide +kernel
theorem d_Model_date_297 : decode prog_11_method_64_code 297 = .ok (.ifCond .ge 5, 3) := by decide +kernel
theorem d_Model_date_300 : decode prog_11_method_64_code 300 = .ok (.lload_n 2, 1) := by decide +kernel
theorem d_Model_date_301 : decode prog_11_method_64_code 301 = .ok (.lreturn, 1) := by decide +kernel
theorem d_Model_date_302 : decode prog_11_method_64_code 302 = .ok (.iconst 0, 1) := by decide +kernel
theorem d_Model_date_303 : decode prog_11_method_64_code 303 = .ok (.istore 11, 2) := by decide +kernel
theorem d_Model_date_305 : decode prog_11_method_64_code 305 = .ok (.aload_n 0, 1) := by decide +kernel
theorem d_Model_date_306 : decode prog_11_method_64_code 306 = .ok (.getfield 265, 3) := by decide +kernel
theorem d_Model_date_309 : decode prog_11_method_64_code 309 = .ok (.aload_n 0, 1) := by decide +kernel
theorem d_Model_date_310 : decode prog_11_method_64_code 310 = .ok (.getfield 149, 3) := by decide +kernel
theorem d_Model_date_313 : decode prog_11_method_64_code 313 = .ok (.if_icmp .ge 32, 3) := by decide +kernel
theorem d_Model_date_316 : decode prog_11_method_64_code 316 = .ok (.aload_n 0, 1) := by decide +kernel
theorem d_Model_date_317 : decode prog_11_method_64_code 317 = .ok (.aload_n 0, 1) := by decide +kernel
theorem d_Model_date_318 : decode prog_11_method_64_code 318 = .ok (.getfield 265, 3) := by decide +kernel
theorem d_Model_date_321 : decode prog_11_method_64_code 321 = .ok (.bipush 58, 2) := by decide +kernel
theorem d_Model_date_323 : decode prog_11_method_64_code 323 = .ok (.invokevirtual 200, 3) := by decide +kernel
theorem d_Model_date_326 : decode prog_11_method_64_code 326 = .ok (.ifCond .eq 19, 3) := by decide +kernel
theorem d_Model_date_329 : decode prog_11_method_64_code 329 = .ok (.aload_n 0, 1) := by decide +kernel
theorem d_Model_date_330 : decode prog_11_method_64_code 330 = .ok (.invokevirtual 322, 3) := by decide +kernel
theorem d_Model_date_333 : decode prog_11_method_64_code 333 = .ok (.aload_n 0, 1) := by decide +kernel
theorem d_Model_date_334 : decode prog_11_method_64_code 334 = .ok (.bipush 61, 2) := by decide +kernel
theorem d_Model_date_336 : decode prog_11_method_64_code 336 = .ok (.invokevirtual 331, 3) := by decide +kernel
theorem d_Model_date_339 : decode prog_11_method_64_code 339 = .ok (.istore 11, 2) := by decide +kernel
theorem d_Model_date_341 : decode prog_11_method_64_code 341 = .ok (.aload_n 0, 1) := by decide +kernel
theorem d_Model_date_342 : decode prog_11_method_64_code 342 = .ok (.invokevirtual 322, 3) := by decide +kernel
theorem d_Model_date_345 : decode prog_11_method_64_code 345 = .ok (.iload 11, 2) := by decide +kernel
theorem d_Model_date_347 : decode prog_11_method_64_code 347 = .ok (.ifCond .ge 5, 3) := by decide +kernel
theorem d_Model_date_350 : decode prog_11_method_64_code 350 = .ok (.lload_n 2, 1) := by decide +kernel
theorem d_Model_date_351 : decode prog_11_method_64_code 351 = .ok (.lreturn, 1) := by decide +kernel
theorem d_Model_date_352 : decode prog_11_method_64_code 352 = .ok (.aload_n 0, 1) := by decide +kernel
theorem d_Model_date_353 : decode prog_11_method_64_code 353 = .ok (.iload 5, 2) := by decide +kernel
theorem d_Model_date_355 : decode prog_11_method_64_code 355 = .ok (.iload 6, 2) := by decide +kernel
theorem d_Model_date_357 : decode prog_11_method_64_code 357 = .ok (.iload 7, 2) := by decide +kernel
theorem d_Model_date_359 : decode prog_11_method_64_code 359 = .ok (.invokevirtual 334, 3) := by decide +kernel
theorem d_Model_date_362 : decode prog_11_method_64_code 362 = .ok (.ldc2_w 338, 3) := by decide +kernel
theorem d_Model_date_365 : decode prog_11_method_64_code 365 = .ok (.lmul, 1) := by decide +kernel
theorem d_Model_date_366 : decode prog_11_method_64_code 366 = .ok (.ldc2_w 340, 3) := by decide +kernel
theorem d_Model_date_369 : decode prog_11_method_64_code 369 = .ok (.iload 8, 2) := by decide +kernel
theorem d_Model_date_371 : decode prog_11_method_64_code 371 = .ok (.i2l, 1) := by decide +kernel
theorem d_Model_date_372 : decode prog_11_method_64_code 372 = .ok (.lmul, 1) := by decide +kernel
theorem d_Model_date_373 : decode prog_11_method_64_code 373 = .ok (.ladd, 1) := by decide +kernel
theorem d_Model_date_374 : decode prog_11_method_64_code 374 = .ok (.ldc2_w 342, 3) := by decide +kernel
theorem d_Model_date_377 : decode prog_11_method_64_code 377 = .ok (.iload 10, 2) := by decide +kernel
theorem d_Model_date_379 : decode prog_11_method_64_code 379 = .ok (.i2l, 1) := by decide +kernel
theorem d_Model_date_380 : decode prog_11_method_64_code 380 = .ok (.lmul, 1) := by decide +kernel
theorem d_Model_date_381 : decode prog_11_method_64_code 381 = .ok (.ladd, 1) := by decide +kernel
theorem d_Model_date_382 : decode prog_11_method_64_code 382 = .ok (.iload 11, 2) := by decide +kernel
theorem d_Model_date_384 : decode prog_11_method_64_code 384 = .ok (.i2l, 1) := by decide +kernel
theorem d_Model_date_385 : decode prog_11_method_64_code 385 = .ok (.ladd, 1) := by decide +kernel
theorem d_Model_date_386 : decode prog_11_method_64_code 386 = .ok (.aload_n 0, 1) := by decide +kernel
theorem d_Model_date_387 : decode prog_11_method_64_code 387 = .ok (.aload_n 0, 1) := by decide +kernel
theorem d_Model_date_388 : decode prog_11_method_64_code 388 = .ok (.getfield 265, 3) := by decide +kernel
theorem d_Model_date_391 : decode prog_11_method_64_code 391 = .ok (.invokevirtual 344, 3) := by decide +kernel
theorem d_Model_date_394 : decode prog_11_method_64_code 394 = .ok (.i2l, 1) := by decide +kernel
theorem d_Model_date_395 : decode prog_11_method_64_code 395 = .ok (.lsub, 1) := by decide +kernel
theorem d_Model_date_396 : decode prog_11_method_64_code 396 = .ok (.lreturn, 1) := by decide +kernel
theorem d_Model_end_0 : decode prog_11_method_5_code 0 = .ok (.aload_n 0, 1) := by decide +kernel
theorem d_Model_end_1 : decode prog_11_method_5_code 1 = .ok (.iconst 0, 1) := by decide +kernel
theorem d_Model_end_2 : decode prog_11_method_5_code 2 = .ok (.putfield 99, 3) := by decide +kernel
theorem d_Model_end_5 : decode prog_11_method_5_code 5 = .ok (.iload_n 1, 1) := by decide +kernel
theorem d_Model_end_6 : decode prog_11_method_5_code 6 = .ok (.ifCond .lt 21, 3) := by decide +kernel
theorem d_Model_end_9 : decode prog_11_method_5_code 9 = .ok (.iload_n 1, 1) := by decide +kernel
theorem d_Model_end_10 : decode prog_11_method_5_code 10 = .ok (.bipush 20, 2) := by decide +kernel
theorem d_Model_end_12 : decode prog_11_method_5_code 12 = .ok (.if_icmp .gt 15, 3) := by decide +kernel
theorem d_Model_end_15 : decode prog_11_method_5_code 15 = .ok (.aload_n 0, 1) := by decide +kernel
theorem d_Model_end_16 : decode prog_11_method_5_code 16 = .ok (.getfield 106, 3) := by decide +kernel
theorem d_Model_end_19 : decode prog_11_method_5_code 19 = .ok (.iload_n 1, 1) := by decide +kernel
theorem d_Model_end_20 : decode prog_11_method_5_code 20 = .ok (.iadd, 1) := by decide +kernel
theorem d_Model_end_21 : decode prog_11_method_5_code 21 = .ok (.sipush 1500, 3) := by decide +kernel
theorem d_Model_end_24 : decode prog_11_method_5_code 24 = .ok (.if_icmp .le 5, 3) := by decide +kernel
theorem d_Model_end_27 : decode prog_11_method_5_code 27 = .ok (.iconst (-1), 1) := by decide +kernel
theorem d_Model_end_28 : decode prog_11_method_5_code 28 = .ok (.ireturn, 1) := by decide +kernel
theorem d_Model_end_29 : decode prog_11_method_5_code 29 = .ok (.iconst 0, 1) := by decide +kernel
theorem d_Model_end_30 : decode prog_11_method_5_code 30 = .ok (.istore_n 2, 1) := by decide +kernel
theorem d_Model_end_31 : decode prog_11_method_5_code 31 = .ok (.iload_n 2, 1) := by decide +kernel
theorem d_Model_end_32 : decode prog_11_method_5_code 32 = .ok (.iload_n 1, 1) := by decide +kernel
theorem d_Model_end_33 : decode prog_11_method_5_code 33 = .ok (.if_icmp .ge 26, 3) := by decide +kernel
theorem d_Model_end_36 : decode prog_11_method_5_code 36 = .ok (.aload_n 0, 1) := by decide +kernel
theorem d_Model_end_37 : decode prog_11_method_5_code 37 = .ok (.getfield 13, 3) := by decide +kernel
theorem d_Model_end_40 : decode prog_11_method_5_code 40 = .ok (.aload_n 0, 1) := by decide +kernel
theorem d_Model_end_41 : decode prog_11_method_5_code 41 = .ok (.getfield 106, 3) := by decide +kernel
theorem d_Model_end_44 : decode prog_11_method_5_code 44 = .ok (.iload_n 2, 1) := by decide +kernel
theorem d_Model_end_45 : decode prog_11_method_5_code 45 = .ok (.iadd, 1) := by decide +kernel
theorem d_Model_end_46 : decode prog_11_method_5_code 46 = .ok (.aload_n 0, 1) := by decide +kernel
theorem d_Model_end_47 : decode prog_11_method_5_code 47 = .ok (.getfield 7, 3) := by decide +kernel
theorem d_Model_end_50 : decode prog_11_method_5_code 50 = .ok (.iload_n 2, 1) := by decide +kernel
theorem d_Model_end_51 : decode prog_11_method_5_code 51 = .ok (.iaload, 1) := by decide +kernel
theorem d_Model_end_52 : decode prog_11_method_5_code 52 = .ok (.iastore, 1) := by decide +kernel
theorem d_Model_end_53 : decode prog_11_method_5_code 53 = .ok (.iinc 2 1, 3) := by decide +kernel
theorem d_Model_end_56 : decode prog_11_method_5_code 56 = .ok (.goto (-25), 3) := by decide +kernel
theorem d_Model_end_59 : decode prog_11_method_5_code 59 = .ok (.aload_n 0, 1) := by decide +kernel
theorem d_Model_end_60 : decode prog_11_method_5_code 60 = .ok (.dup, 1) := by decide +kernel
theorem d_Model_end_61 : decode prog_11_method_5_code 61 = .ok (.getfield 106, 3) := by decide +kernel
theorem d_Model_end_64 : decode prog_11_method_5_code 64 = .ok (.iload_n 1, 1) := by decide +kernel
theorem d_Model_end_65 : decode prog_11_method_5_code 65 = .ok (.iadd, 1) := by decide +kernel
theorem d_Model_end_66 : decode prog_11_method_5_code 66 = .ok (.putfield 106, 3) := by decide +kernel
theorem d_Model_end_69 : decode prog_11_method_5_code 69 = .ok (.iconst 0, 1) := by decide +kernel
theorem d_Model_end_70 : decode prog_11_method_5_code 70 = .ok (.istore_n 2, 1) := by decide +kernel
theorem d_Model_end_71 : decode prog_11_method_5_code 71 = .ok (.iload_n 2, 1) := by decide +kernel
theorem d_Model_end_72 : decode prog_11_method_5_code 72 = .ok (.bipush 20, 2) := by decide +kernel
theorem d_Model_end_74 : decode prog_11_method_5_code 74 = .ok (.if_icmp .ge 16, 3) := by decide +kernel
theorem d_Model_end_77 : decode prog_11_method_5_code 77 = .ok (.aload_n 0, 1) := by decide +kernel
theorem d_Model_end_78 : decode prog_11_method_5_code 78 = .ok (.getfield 7, 3) := by decide +kernel
theorem d_Model_end_81 : decode prog_11_method_5_code 81 = .ok (.iload_n 2, 1) := by decide +kernel
theorem d_Model_end_82 : decode prog_11_method_5_code 82 = .ok (.iconst 0, 1) := by decide +kernel
theorem d_Model_end_83 : decode prog_11_method_5_code 83 = .ok (.iastore, 1) := by decide +kernel
theorem d_Model_end_84 : decode prog_11_method_5_code 84 = .ok (.iinc 2 1, 3) := by decide +kernel
theorem d_Model_end_87 : decode prog_11_method_5_code 87 = .ok (.goto (-16), 3) := by decide +kernel
theorem d_Model_end_90 : decode prog_11_method_5_code 90 = .ok (.aload_n 0, 1) := by decide +kernel
theorem d_Model_end_91 : decode prog_11_method_5_code 91 = .ok (.getfield 106, 3) := by decide +kernel
theorem d_Model_end_94 : decode prog_11_method_5_code 94 = .ok (.ireturn, 1) := by decide +kernel
theorem d_Model_fieldByte_0 : decode prog_11_method_17_code 0 = .ok (.aload_n 0, 1) := by decide +kernel
theorem d_Model_fieldByte_1 : decode prog_11_method_17_code 1 = .ok (.iload_n 1, 1) := by decide +kernel
theorem d_Model_fieldByte_2 : decode prog_11_method_17_code 2 = .ok (.iload_n 2, 1) := by decide +kernel
theorem d_Model_fieldByte_3 : decode prog_11_method_17_code 3 = .ok (.invokevirtual 140, 3) := by decide +kernel
theorem d_Model_fieldByte_6 : decode prog_11_method_17_code 6 = .ok (.istore 4, 2) := by decide +kernel
theorem d_Model_fieldByte_8 : decode prog_11_method_17_code 8 = .ok (.iload_n 3, 1) := by decide +kernel
theorem d_Model_fieldByte_9 : decode prog_11_method_17_code 9 = .ok (.ifCond .lt 9, 3) := by decide +kernel
theorem d_Model_fieldByte_12 : decode prog_11_method_17_code 12 = .ok (.iload_n 3, 1) := by decide +kernel
theorem d_Model_fieldByte_13 : decode prog_11_method_17_code 13 = .ok (.iload 4, 2) := by decide +kernel
theorem d_Model_fieldByte_15 : decode prog_11_method_17_code 15 = .ok (.if_icmp .lt 5, 3) := by decide +kernel
theorem d_Model_fieldByte_18 : decode prog_11_method_17_code 18 = .ok (.iconst (-1), 1) := by decide +kernel
theorem d_Model_fieldByte_19 : decode prog_11_method_17_code 19 = .ok (.ireturn, 1) := by decide +kernel
theorem d_Model_fieldByte_20 : decode prog_11_method_17_code 20 = .ok (.aload_n 0, 1) := by decide +kernel
theorem d_Model_fieldByte_21 : decode prog_11_method_17_code 21 = .ok (.getfield 28, 3) := by decide +kernel
theorem d_Model_fieldByte_24 : decode prog_11_method_17_code 24 = .ok (.iload_n 2, 1) := by decide +kernel
theorem d_Model_fieldByte_25 : decode prog_11_method_17_code 25 = .ok (.ifCond .ne 12, 3) := by decide +kernel
theorem d_Model_fieldByte_28 : decode prog_11_method_17_code 28 = .ok (.aload_n 0, 1) := by decide +kernel
theorem d_Model_fieldByte_29 : decode prog_11_method_17_code 29 = .ok (.getfield 16, 3) := by decide +kernel
theorem d_Model_fieldByte_32 : decode prog_11_method_17_code 32 = .ok (.iload_n 1, 1) := by decide +kernel
theorem d_Model_fieldByte_33 : decode prog_11_method_17_code 33 = .ok (.iaload, 1) := by decide +kernel
theorem d_Model_fieldByte_34 : decode prog_11_method_17_code 34 = .ok (.goto 9, 3) := by decide +kernel
theorem d_Model_fieldByte_37 : decode prog_11_method_17_code 37 = .ok (.aload_n 0, 1) := by decide +kernel
theorem d_Model_fieldByte_38 : decode prog_11_method_17_code 38 = .ok (.getfield 22, 3) := by decide +kernel
theorem d_Model_fieldByte_41 : decode prog_11_method_17_code 41 = .ok (.iload_n 1, 1) := by decide +kernel
theorem d_Model_fieldByte_42 : decode prog_11_method_17_code 42 = .ok (.iaload, 1) := by decide +kernel
theorem d_Model_fieldByte_43 : decode prog_11_method_17_code 43 = .ok (.iload_n 3, 1) := by decide +kernel
theorem d_Model_fieldByte_44 : decode prog_11_method_17_code 44 = .ok (.iadd, 1) := by decide +kernel
theorem d_Model_fieldByte_45 : decode prog_11_method_17_code 45 = .ok (.iaload, 1) := by decide +kernel
theorem d_Model_fieldByte_46 : decode prog_11_method_17_code 46 = .ok (.ireturn, 1) := by decide +kernel
theorem d_Model_length_0 : decode prog_11_method_36_code 0 = .ok (.aload_n 0, 1) := by decide +kernel
theorem d_Model_length_1 : decode prog_11_method_36_code 1 = .ok (.iconst 0, 1) := by decide +kernel
theorem d_Model_length_2 : decode prog_11_method_36_code 2 = .ok (.putfield 99, 3) := by decide +kernel
theorem d_Model_length_5 : decode prog_11_method_36_code 5 = .ok (.iload_n 1, 1) := by decide +kernel
theorem d_Model_length_6 : decode prog_11_method_36_code 6 = .ok (.ifCond .lt 23, 3) := by decide +kernel
theorem d_Model_length_9 : decode prog_11_method_36_code 9 = .ok (.iload_n 1, 1) := by decide +kernel
theorem d_Model_length_10 : decode prog_11_method_36_code 10 = .ok (.bipush 6, 2) := by decide +kernel
theorem d_Model_length_12 : decode prog_11_method_36_code 12 = .ok (.if_icmp .gt 17, 3) := by decide +kernel
theorem d_Model_length_15 : decode prog_11_method_36_code 15 = .ok (.iload_n 2, 1) := by decide +kernel
theorem d_Model_length_16 : decode prog_11_method_36_code 16 = .ok (.ifCond .lt 13, 3) := by decide +kernel
theorem d_Model_length_19 : decode prog_11_method_36_code 19 = .ok (.iload_n 2, 1) := by decide +kernel
theorem d_Model_length_20 : decode prog_11_method_36_code 20 = .ok (.aload_n 0, 1) := by decide +kernel
theorem d_Model_length_21 : decode prog_11_method_36_code 21 = .ok (.getfield 52, 3) := by decide +kernel
theorem d_Model_length_24 : decode prog_11_method_36_code 24 = .ok (.iload_n 1, 1) := by decide +kernel
