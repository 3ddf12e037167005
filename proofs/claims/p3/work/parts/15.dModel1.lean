theorem d_Model_forget_9 : decode prog_11_method_29_code 9 = .ok (.aload_n 0, 1) := by decide +kernel
theorem d_Model_forget_10 : decode prog_11_method_29_code 10 = .ok (.getfield 52, 3) := by decide +kernel
theorem d_Model_forget_13 : decode prog_11_method_29_code 13 = .ok (.iload 4, 2) := by decide +kernel
theorem d_Model_forget_15 : decode prog_11_method_29_code 15 = .ok (.iconst 0, 1) := by decide +kernel
theorem d_Model_forget_16 : decode prog_11_method_29_code 16 = .ok (.iastore, 1) := by decide +kernel
theorem d_Model_forget_17 : decode prog_11_method_29_code 17 = .ok (.iinc 4 1, 3) := by decide +kernel
theorem d_Model_forget_20 : decode prog_11_method_29_code 20 = .ok (.goto (-17), 3) := by decide +kernel
theorem d_Model_forget_23 : decode prog_11_method_29_code 23 = .ok (.aload_n 0, 1) := by decide +kernel
theorem d_Model_forget_24 : decode prog_11_method_29_code 24 = .ok (.getfield 49, 3) := by decide +kernel
theorem d_Model_forget_27 : decode prog_11_method_29_code 27 = .ok (.iload_n 3, 1) := by decide +kernel
theorem d_Model_forget_28 : decode prog_11_method_29_code 28 = .ok (.iconst 0, 1) := by decide +kernel
theorem d_Model_forget_29 : decode prog_11_method_29_code 29 = .ok (.iastore, 1) := by decide +kernel
theorem d_Model_forget_30 : decode prog_11_method_29_code 30 = .ok (.return_, 1) := by decide +kernel
theorem d_Model_endPart_0 : decode prog_11_method_35_code 0 = .ok (.aload_n 0, 1) := by decide +kernel
theorem d_Model_endPart_1 : decode prog_11_method_35_code 1 = .ok (.getfield 52, 3) := by decide +kernel
theorem d_Model_endPart_4 : decode prog_11_method_35_code 4 = .ok (.iload_n 1, 1) := by decide +kernel
theorem d_Model_endPart_5 : decode prog_11_method_35_code 5 = .ok (.dup2, 1) := by decide +kernel
theorem d_Model_endPart_6 : decode prog_11_method_35_code 6 = .ok (.iaload, 1) := by decide +kernel
theorem d_Model_endPart_7 : decode prog_11_method_35_code 7 = .ok (.iconst 1, 1) := by decide +kernel
theorem d_Model_endPart_8 : decode prog_11_method_35_code 8 = .ok (.iadd, 1) := by decide +kernel
theorem d_Model_endPart_9 : decode prog_11_method_35_code 9 = .ok (.iastore, 1) := by decide +kernel
theorem d_Model_endPart_10 : decode prog_11_method_35_code 10 = .ok (.return_, 1) := by decide +kernel
theorem d_Model_identities_0 : decode prog_11_method_50_code 0 = .ok (.aload_n 0, 1) := by decide +kernel
theorem d_Model_identities_1 : decode prog_11_method_50_code 1 = .ok (.aload_n 0, 1) := by decide +kernel
theorem d_Model_identities_2 : decode prog_11_method_50_code 2 = .ok (.iload_n 1, 1) := by decide +kernel
theorem d_Model_identities_3 : decode prog_11_method_50_code 3 = .ok (.invokevirtual 137, 3) := by decide +kernel
theorem d_Model_identities_6 : decode prog_11_method_50_code 6 = .ok (.ifCond .eq 7, 3) := by decide +kernel
theorem d_Model_identities_9 : decode prog_11_method_50_code 9 = .ok (.iconst 0, 1) := by decide +kernel
theorem d_Model_identities_10 : decode prog_11_method_50_code 10 = .ok (.goto 4, 3) := by decide +kernel
theorem d_Model_identities_13 : decode prog_11_method_50_code 13 = .ok (.iconst 1, 1) := by decide +kernel
theorem d_Model_identities_14 : decode prog_11_method_50_code 14 = .ok (.putfield 99, 3) := by decide +kernel
theorem d_Model_identities_17 : decode prog_11_method_50_code 17 = .ok (.aload_n 0, 1) := by decide +kernel
theorem d_Model_identities_18 : decode prog_11_method_50_code 18 = .ok (.getfield 99, 3) := by decide +kernel
theorem d_Model_identities_21 : decode prog_11_method_50_code 21 = .ok (.ifCond .eq 5, 3) := by decide +kernel
theorem d_Model_identities_24 : decode prog_11_method_50_code 24 = .ok (.iconst 0, 1) := by decide +kernel
theorem d_Model_identities_25 : decode prog_11_method_50_code 25 = .ok (.ireturn, 1) := by decide +kernel
theorem d_Model_identities_26 : decode prog_11_method_50_code 26 = .ok (.aload_n 0, 1) := by decide +kernel
theorem d_Model_identities_27 : decode prog_11_method_50_code 27 = .ok (.iconst 4, 1) := by decide +kernel
theorem d_Model_identities_28 : decode prog_11_method_50_code 28 = .ok (.iconst 4, 1) := by decide +kernel
theorem d_Model_identities_29 : decode prog_11_method_50_code 29 = .ok (.iconst 1, 1) := by decide +kernel
theorem d_Model_identities_30 : decode prog_11_method_50_code 30 = .ok (.invokevirtual 255, 3) := by decide +kernel
theorem d_Model_identities_33 : decode prog_11_method_50_code 33 = .ok (.aload_n 0, 1) := by decide +kernel
theorem d_Model_identities_34 : decode prog_11_method_50_code 34 = .ok (.getfield 22, 3) := by decide +kernel
theorem d_Model_identities_37 : decode prog_11_method_50_code 37 = .ok (.iload_n 1, 1) := by decide +kernel
theorem d_Model_identities_38 : decode prog_11_method_50_code 38 = .ok (.iaload, 1) := by decide +kernel
theorem d_Model_identities_39 : decode prog_11_method_50_code 39 = .ok (.istore_n 2, 1) := by decide +kernel
theorem d_Model_identities_40 : decode prog_11_method_50_code 40 = .ok (.iload_n 2, 1) := by decide +kernel
theorem d_Model_identities_41 : decode prog_11_method_50_code 41 = .ok (.aload_n 0, 1) := by decide +kernel
theorem d_Model_identities_42 : decode prog_11_method_50_code 42 = .ok (.getfield 25, 3) := by decide +kernel
theorem d_Model_identities_45 : decode prog_11_method_50_code 45 = .ok (.iload_n 1, 1) := by decide +kernel
theorem d_Model_identities_46 : decode prog_11_method_50_code 46 = .ok (.iaload, 1) := by decide +kernel
theorem d_Model_identities_47 : decode prog_11_method_50_code 47 = .ok (.iadd, 1) := by decide +kernel
theorem d_Model_identities_48 : decode prog_11_method_50_code 48 = .ok (.istore_n 3, 1) := by decide +kernel
theorem d_Model_identities_49 : decode prog_11_method_50_code 49 = .ok (.iload_n 2, 1) := by decide +kernel
theorem d_Model_identities_50 : decode prog_11_method_50_code 50 = .ok (.iload_n 3, 1) := by decide +kernel
theorem d_Model_identities_51 : decode prog_11_method_50_code 51 = .ok (.if_icmp .ge 187, 3) := by decide +kernel
theorem d_Model_identities_54 : decode prog_11_method_50_code 54 = .ok (.iload_n 2, 1) := by decide +kernel
theorem d_Model_identities_55 : decode prog_11_method_50_code 55 = .ok (.istore 4, 2) := by decide +kernel
theorem d_Model_identities_57 : decode prog_11_method_50_code 57 = .ok (.iload 4, 2) := by decide +kernel
theorem d_Model_identities_59 : decode prog_11_method_50_code 59 = .ok (.iload_n 3, 1) := by decide +kernel
theorem d_Model_identities_60 : decode prog_11_method_50_code 60 = .ok (.if_icmp .ge 21, 3) := by decide +kernel
theorem d_Model_identities_63 : decode prog_11_method_50_code 63 = .ok (.aload_n 0, 1) := by decide +kernel
theorem d_Model_identities_64 : decode prog_11_method_50_code 64 = .ok (.getfield 28, 3) := by decide +kernel
theorem d_Model_identities_67 : decode prog_11_method_50_code 67 = .ok (.iload 4, 2) := by decide +kernel
theorem d_Model_identities_69 : decode prog_11_method_50_code 69 = .ok (.iaload, 1) := by decide +kernel
theorem d_Model_identities_70 : decode prog_11_method_50_code 70 = .ok (.bipush 60, 2) := by decide +kernel
theorem d_Model_identities_72 : decode prog_11_method_50_code 72 = .ok (.if_icmp .eq 9, 3) := by decide +kernel
theorem d_Model_identities_75 : decode prog_11_method_50_code 75 = .ok (.iinc 4 1, 3) := by decide +kernel
theorem d_Model_identities_78 : decode prog_11_method_50_code 78 = .ok (.goto (-21), 3) := by decide +kernel
theorem d_Model_identities_81 : decode prog_11_method_50_code 81 = .ok (.iload 4, 2) := by decide +kernel
theorem d_Model_identities_83 : decode prog_11_method_50_code 83 = .ok (.istore 5, 2) := by decide +kernel
theorem d_Model_identities_85 : decode prog_11_method_50_code 85 = .ok (.iload 5, 2) := by decide +kernel
theorem d_Model_identities_87 : decode prog_11_method_50_code 87 = .ok (.iload_n 3, 1) := by decide +kernel
theorem d_Model_identities_88 : decode prog_11_method_50_code 88 = .ok (.if_icmp .ge 21, 3) := by decide +kernel
theorem d_Model_identities_91 : decode prog_11_method_50_code 91 = .ok (.aload_n 0, 1) := by decide +kernel
theorem d_Model_identities_92 : decode prog_11_method_50_code 92 = .ok (.getfield 28, 3) := by decide +kernel
theorem d_Model_identities_95 : decode prog_11_method_50_code 95 = .ok (.iload 5, 2) := by decide +kernel
theorem d_Model_identities_97 : decode prog_11_method_50_code 97 = .ok (.iaload, 1) := by decide +kernel
theorem d_Model_identities_98 : decode prog_11_method_50_code 98 = .ok (.bipush 62, 2) := by decide +kernel
theorem d_Model_identities_100 : decode prog_11_method_50_code 100 = .ok (.if_icmp .eq 9, 3) := by decide +kernel
theorem d_Model_identities_103 : decode prog_11_method_50_code 103 = .ok (.iinc 5 1, 3) := by decide +kernel
theorem d_Model_identities_106 : decode prog_11_method_50_code 106 = .ok (.goto (-21), 3) := by decide +kernel
theorem d_Model_identities_109 : decode prog_11_method_50_code 109 = .ok (.iconst 0, 1) := by decide +kernel
theorem d_Model_identities_110 : decode prog_11_method_50_code 110 = .ok (.istore 6, 2) := by decide +kernel
theorem d_Model_identities_112 : decode prog_11_method_50_code 112 = .ok (.iload 4, 2) := by decide +kernel
theorem d_Model_identities_114 : decode prog_11_method_50_code 114 = .ok (.iconst 1, 1) := by decide +kernel
theorem d_Model_identities_115 : decode prog_11_method_50_code 115 = .ok (.iadd, 1) := by decide +kernel
theorem d_Model_identities_116 : decode prog_11_method_50_code 116 = .ok (.istore 7, 2) := by decide +kernel
theorem d_Model_identities_118 : decode prog_11_method_50_code 118 = .ok (.iload 7, 2) := by decide +kernel
theorem d_Model_identities_120 : decode prog_11_method_50_code 120 = .ok (.iload 5, 2) := by decide +kernel
theorem d_Model_identities_122 : decode prog_11_method_50_code 122 = .ok (.if_icmp .ge 34, 3) := by decide +kernel
theorem d_Model_identities_125 : decode prog_11_method_50_code 125 = .ok (.iload 6, 2) := by decide +kernel
theorem d_Model_identities_127 : decode prog_11_method_50_code 127 = .ok (.ifCond .ne 16, 3) := by decide +kernel
theorem d_Model_identities_130 : decode prog_11_method_50_code 130 = .ok (.aload_n 0, 1) := by decide +kernel
theorem d_Model_identities_131 : decode prog_11_method_50_code 131 = .ok (.getfield 28, 3) := by decide +kernel
theorem d_Model_identities_134 : decode prog_11_method_50_code 134 = .ok (.iload 7, 2) := by decide +kernel
theorem d_Model_identities_136 : decode prog_11_method_50_code 136 = .ok (.iaload, 1) := by decide +kernel
theorem d_Model_identities_137 : decode prog_11_method_50_code 137 = .ok (.invokestatic 109, 3) := by decide +kernel
theorem d_Model_identities_140 : decode prog_11_method_50_code 140 = .ok (.ifCond .eq 7, 3) := by decide +kernel
theorem d_Model_identities_143 : decode prog_11_method_50_code 143 = .ok (.iconst 1, 1) := by decide +kernel
theorem d_Model_identities_144 : decode prog_11_method_50_code 144 = .ok (.goto 4, 3) := by decide +kernel
theorem d_Model_identities_147 : decode prog_11_method_50_code 147 = .ok (.iconst 0, 1) := by decide +kernel
theorem d_Model_identities_148 : decode prog_11_method_50_code 148 = .ok (.istore 6, 2) := by decide +kernel
theorem d_Model_identities_150 : decode prog_11_method_50_code 150 = .ok (.iinc 7 1, 3) := by decide +kernel
theorem d_Model_identities_153 : decode prog_11_method_50_code 153 = .ok (.goto (-35), 3) := by decide +kernel
theorem d_Model_identities_156 : decode prog_11_method_50_code 156 = .ok (.iload 5, 2) := by decide +kernel
theorem d_Model_identities_158 : decode prog_11_method_50_code 158 = .ok (.iload 4, 2) := by decide +kernel
theorem d_Model_identities_160 : decode prog_11_method_50_code 160 = .ok (.isub, 1) := by decide +kernel
theorem d_Model_identities_161 : decode prog_11_method_50_code 161 = .ok (.iconst 1, 1) := by decide +kernel
theorem d_Model_identities_162 : decode prog_11_method_50_code 162 = .ok (.isub, 1) := by decide +kernel
theorem d_Model_identities_163 : decode prog_11_method_50_code 163 = .ok (.istore 7, 2) := by decide +kernel
theorem d_Model_identities_165 : decode prog_11_method_50_code 165 = .ok (.iload 5, 2) := by decide +kernel
theorem d_Model_identities_167 : decode prog_11_method_50_code 167 = .ok (.iload_n 3, 1) := by decide +kernel
theorem d_Model_identities_168 : decode prog_11_method_50_code 168 = .ok (.if_icmp .ge 62, 3) := by decide +kernel
theorem d_Model_identities_171 : decode prog_11_method_50_code 171 = .ok (.iload 6, 2) := by decide +kernel
theorem d_Model_identities_173 : decode prog_11_method_50_code 173 = .ok (.ifCond .ne 57, 3) := by decide +kernel
theorem d_Model_identities_176 : decode prog_11_method_50_code 176 = .ok (.iload 7, 2) := by decide +kernel
theorem d_Model_identities_178 : decode prog_11_method_50_code 178 = .ok (.iconst 1, 1) := by decide +kernel
theorem d_Model_identities_179 : decode prog_11_method_50_code 179 = .ok (.if_icmp .lt 51, 3) := by decide +kernel
theorem d_Model_identities_182 : decode prog_11_method_50_code 182 = .ok (.iload 7, 2) := by decide +kernel
theorem d_Model_identities_184 : decode prog_11_method_50_code 184 = .ok (.bipush 100, 2) := by decide +kernel
theorem d_Model_identities_186 : decode prog_11_method_50_code 186 = .ok (.if_icmp .gt 44, 3) := by decide +kernel
theorem d_Model_identities_189 : decode prog_11_method_50_code 189 = .ok (.aload_n 0, 1) := by decide +kernel
theorem d_Model_identities_190 : decode prog_11_method_50_code 190 = .ok (.iconst 4, 1) := by decide +kernel
theorem d_Model_identities_191 : decode prog_11_method_50_code 191 = .ok (.invokevirtual 204, 3) := by decide +kernel
theorem d_Model_identities_194 : decode prog_11_method_50_code 194 = .ok (.iload 4, 2) := by decide +kernel
theorem d_Model_identities_196 : decode prog_11_method_50_code 196 = .ok (.iconst 1, 1) := by decide +kernel
theorem d_Model_identities_197 : decode prog_11_method_50_code 197 = .ok (.iadd, 1) := by decide +kernel
theorem d_Model_identities_198 : decode prog_11_method_50_code 198 = .ok (.istore 8, 2) := by decide +kernel
theorem d_Model_identities_200 : decode prog_11_method_50_code 200 = .ok (.iload 8, 2) := by decide +kernel
theorem d_Model_identities_202 : decode prog_11_method_50_code 202 = .ok (.iload 5, 2) := by decide +kernel
theorem d_Model_identities_204 : decode prog_11_method_50_code 204 = .ok (.if_icmp .ge 21, 3) := by decide +kernel
theorem d_Model_identities_207 : decode prog_11_method_50_code 207 = .ok (.aload_n 0, 1) := by decide +kernel
theorem d_Model_identities_208 : decode prog_11_method_50_code 208 = .ok (.iconst 4, 1) := by decide +kernel
theorem d_Model_identities_209 : decode prog_11_method_50_code 209 = .ok (.aload_n 0, 1) := by decide +kernel
theorem d_Model_identities_210 : decode prog_11_method_50_code 210 = .ok (.getfield 28, 3) := by decide +kernel
theorem d_Model_identities_213 : decode prog_11_method_50_code 213 = .ok (.iload 8, 2) := by decide +kernel
theorem d_Model_identities_215 : decode prog_11_method_50_code 215 = .ok (.iaload, 1) := by decide +kernel
theorem d_Model_identities_216 : decode prog_11_method_50_code 216 = .ok (.invokevirtual 191, 3) := by decide +kernel
theorem d_Model_identities_219 : decode prog_11_method_50_code 219 = .ok (.iinc 8 1, 3) := by decide +kernel
theorem d_Model_identities_222 : decode prog_11_method_50_code 222 = .ok (.goto (-22), 3) := by decide +kernel
theorem d_Model_identities_225 : decode prog_11_method_50_code 225 = .ok (.aload_n 0, 1) := by decide +kernel
theorem d_Model_identities_226 : decode prog_11_method_50_code 226 = .ok (.iconst 4, 1) := by decide +kernel
theorem d_Model_identities_227 : decode prog_11_method_50_code 227 = .ok (.invokevirtual 210, 3) := by decide +kernel
theorem d_Model_identities_230 : decode prog_11_method_50_code 230 = .ok (.iload 5, 2) := by decide +kernel
theorem d_Model_identities_232 : decode prog_11_method_50_code 232 = .ok (.iconst 1, 1) := by decide +kernel
theorem d_Model_identities_233 : decode prog_11_method_50_code 233 = .ok (.iadd, 1) := by decide +kernel
theorem d_Model_identities_234 : decode prog_11_method_50_code 234 = .ok (.istore_n 2, 1) := by decide +kernel
theorem d_Model_identities_235 : decode prog_11_method_50_code 235 = .ok (.goto (-186), 3) := by decide +kernel
theorem d_Model_identities_238 : decode prog_11_method_50_code 238 = .ok (.aload_n 0, 1) := by decide +kernel
theorem d_Model_identities_239 : decode prog_11_method_50_code 239 = .ok (.getfield 52, 3) := by decide +kernel
theorem d_Model_identities_242 : decode prog_11_method_50_code 242 = .ok (.iconst 4, 1) := by decide +kernel
theorem d_Model_identities_243 : decode prog_11_method_50_code 243 = .ok (.iaload, 1) := by decide +kernel
theorem d_Model_identities_244 : decode prog_11_method_50_code 244 = .ok (.ireturn, 1) := by decide +kernel
theorem d_Model_colonOf_0 : decode prog_11_method_9_code 0 = .ok (.iload_n 1, 1) := by decide +kernel
theorem d_Model_colonOf_1 : decode prog_11_method_9_code 1 = .ok (.istore_n 3, 1) := by decide +kernel
theorem d_Model_colonOf_2 : decode prog_11_method_9_code 2 = .ok (.iload_n 3, 1) := by decide +kernel
theorem d_Model_colonOf_3 : decode prog_11_method_9_code 3 = .ok (.iload_n 2, 1) := by decide +kernel
theorem d_Model_colonOf_4 : decode prog_11_method_9_code 4 = .ok (.if_icmp .ge 42, 3) := by decide +kernel
theorem d_Model_colonOf_7 : decode prog_11_method_9_code 7 = .ok (.aload_n 0, 1) := by decide +kernel
theorem d_Model_colonOf_8 : decode prog_11_method_9_code 8 = .ok (.getfield 13, 3) := by decide +kernel
theorem d_Model_colonOf_11 : decode prog_11_method_9_code 11 = .ok (.iload_n 3, 1) := by decide +kernel
theorem d_Model_colonOf_12 : decode prog_11_method_9_code 12 = .ok (.iaload, 1) := by decide +kernel
theorem d_Model_colonOf_13 : decode prog_11_method_9_code 13 = .ok (.bipush 33, 2) := by decide +kernel
theorem d_Model_colonOf_15 : decode prog_11_method_9_code 15 = .ok (.if_icmp .lt 31, 3) := by decide +kernel
theorem d_Model_colonOf_18 : decode prog_11_method_9_code 18 = .ok (.aload_n 0, 1) := by decide +kernel
theorem d_Model_colonOf_19 : decode prog_11_method_9_code 19 = .ok (.getfield 13, 3) := by decide +kernel
theorem d_Model_colonOf_22 : decode prog_11_method_9_code 22 = .ok (.iload_n 3, 1) := by decide +kernel
theorem d_Model_colonOf_23 : decode prog_11_method_9_code 23 = .ok (.iaload, 1) := by decide +kernel
theorem d_Model_colonOf_24 : decode prog_11_method_9_code 24 = .ok (.bipush 126, 2) := by decide +kernel
theorem d_Model_colonOf_26 : decode prog_11_method_9_code 26 = .ok (.if_icmp .gt 20, 3) := by decide +kernel
theorem d_Model_colonOf_29 : decode prog_11_method_9_code 29 = .ok (.aload_n 0, 1) := by decide +kernel
theorem d_Model_colonOf_30 : decode prog_11_method_9_code 30 = .ok (.getfield 13, 3) := by decide +kernel
theorem d_Model_colonOf_33 : decode prog_11_method_9_code 33 = .ok (.iload_n 3, 1) := by decide +kernel
theorem d_Model_colonOf_34 : decode prog_11_method_9_code 34 = .ok (.iaload, 1) := by decide +kernel
theorem d_Model_colonOf_35 : decode prog_11_method_9_code 35 = .ok (.bipush 58, 2) := by decide +kernel
theorem d_Model_colonOf_37 : decode prog_11_method_9_code 37 = .ok (.if_icmp .eq 9, 3) := by decide +kernel
theorem d_Model_colonOf_40 : decode prog_11_method_9_code 40 = .ok (.iinc 3 1, 3) := by decide +kernel
theorem d_Model_colonOf_43 : decode prog_11_method_9_code 43 = .ok (.goto (-41), 3) := by decide +kernel
theorem d_Model_colonOf_46 : decode prog_11_method_9_code 46 = .ok (.iload_n 3, 1) := by decide +kernel
theorem d_Model_colonOf_47 : decode prog_11_method_9_code 47 = .ok (.iload_n 1, 1) := by decide +kernel
theorem d_Model_colonOf_48 : decode prog_11_method_9_code 48 = .ok (.if_icmp .ne 5, 3) := by decide +kernel
theorem d_Model_colonOf_51 : decode prog_11_method_9_code 51 = .ok (.iconst (-1), 1) := by decide +kernel
theorem d_Model_colonOf_52 : decode prog_11_method_9_code 52 = .ok (.ireturn, 1) := by decide +kernel
theorem d_Model_colonOf_53 : decode prog_11_method_9_code 53 = .ok (.iload_n 3, 1) := by decide +kernel
theorem d_Model_colonOf_54 : decode prog_11_method_9_code 54 = .ok (.iload_n 2, 1) := by decide +kernel
theorem d_Model_colonOf_55 : decode prog_11_method_9_code 55 = .ok (.if_icmp .ge 21, 3) := by decide +kernel
theorem d_Model_colonOf_58 : decode prog_11_method_9_code 58 = .ok (.aload_n 0, 1) := by decide +kernel
theorem d_Model_colonOf_59 : decode prog_11_method_9_code 59 = .ok (.getfield 13, 3) := by decide +kernel
theorem d_Model_colonOf_62 : decode prog_11_method_9_code 62 = .ok (.iload_n 3, 1) := by decide +kernel
theorem d_Model_colonOf_63 : decode prog_11_method_9_code 63 = .ok (.iaload, 1) := by decide +kernel
theorem d_Model_colonOf_64 : decode prog_11_method_9_code 64 = .ok (.invokestatic 109, 3) := by decide +kernel
theorem d_Model_colonOf_67 : decode prog_11_method_9_code 67 = .ok (.ifCond .eq 9, 3) := by decide +kernel
theorem d_Model_colonOf_70 : decode prog_11_method_9_code 70 = .ok (.iinc 3 1, 3) := by decide +kernel
theorem d_Model_colonOf_73 : decode prog_11_method_9_code 73 = .ok (.goto (-20), 3) := by decide +kernel
theorem d_Model_colonOf_76 : decode prog_11_method_9_code 76 = .ok (.iload_n 3, 1) := by decide +kernel
theorem d_Model_colonOf_77 : decode prog_11_method_9_code 77 = .ok (.iload_n 2, 1) := by decide +kernel
theorem d_Model_colonOf_78 : decode prog_11_method_9_code 78 = .ok (.if_icmp .ge 18, 3) := by decide +kernel
theorem d_Model_colonOf_81 : decode prog_11_method_9_code 81 = .ok (.aload_n 0, 1) := by decide +kernel
theorem d_Model_colonOf_82 : decode prog_11_method_9_code 82 = .ok (.getfield 13, 3) := by decide +kernel
theorem d_Model_colonOf_85 : decode prog_11_method_9_code 85 = .ok (.iload_n 3, 1) := by decide +kernel
theorem d_Model_colonOf_86 : decode prog_11_method_9_code 86 = .ok (.iaload, 1) := by decide +kernel
theorem d_Model_colonOf_87 : decode prog_11_method_9_code 87 = .ok (.bipush 58, 2) := by decide +kernel
theorem d_Model_colonOf_89 : decode prog_11_method_9_code 89 = .ok (.if_icmp .ne 7, 3) := by decide +kernel
theorem d_Model_colonOf_92 : decode prog_11_method_9_code 92 = .ok (.iload_n 3, 1) := by decide +kernel
theorem d_Model_colonOf_93 : decode prog_11_method_9_code 93 = .ok (.goto 4, 3) := by decide +kernel
theorem d_Model_colonOf_96 : decode prog_11_method_9_code 96 = .ok (.iconst (-1), 1) := by decide +kernel
theorem d_Model_colonOf_97 : decode prog_11_method_9_code 97 = .ok (.ireturn, 1) := by decide +kernel
theorem d_Model_keep_0 : decode prog_11_method_10_code 0 = .ok (.iload_n 1, 1) := by decide +kernel
theorem d_Model_keep_1 : decode prog_11_method_10_code 1 = .ok (.istore_n 3, 1) := by decide +kernel
theorem d_Model_keep_2 : decode prog_11_method_10_code 2 = .ok (.iload_n 3, 1) := by decide +kernel
theorem d_Model_keep_3 : decode prog_11_method_10_code 3 = .ok (.iload_n 2, 1) := by decide +kernel
theorem d_Model_keep_4 : decode prog_11_method_10_code 4 = .ok (.if_icmp .ge 34, 3) := by decide +kernel
theorem d_Model_keep_7 : decode prog_11_method_10_code 7 = .ok (.aload_n 0, 1) := by decide +kernel
theorem d_Model_keep_8 : decode prog_11_method_10_code 8 = .ok (.getfield 28, 3) := by decide +kernel
theorem d_Model_keep_11 : decode prog_11_method_10_code 11 = .ok (.aload_n 0, 1) := by decide +kernel
theorem d_Model_keep_12 : decode prog_11_method_10_code 12 = .ok (.getfield 113, 3) := by decide +kernel
theorem d_Model_keep_15 : decode prog_11_method_10_code 15 = .ok (.aload_n 0, 1) := by decide +kernel
theorem d_Model_keep_16 : decode prog_11_method_10_code 16 = .ok (.getfield 13, 3) := by decide +kernel
theorem d_Model_keep_19 : decode prog_11_method_10_code 19 = .ok (.iload_n 3, 1) := by decide +kernel
theorem d_Model_keep_20 : decode prog_11_method_10_code 20 = .ok (.iaload, 1) := by decide +kernel
theorem d_Model_keep_21 : decode prog_11_method_10_code 21 = .ok (.iastore, 1) := by decide +kernel
theorem d_Model_keep_22 : decode prog_11_method_10_code 22 = .ok (.aload_n 0, 1) := by decide +kernel
theorem d_Model_keep_23 : decode prog_11_method_10_code 23 = .ok (.dup, 1) := by decide +kernel
theorem d_Model_keep_24 : decode prog_11_method_10_code 24 = .ok (.getfield 113, 3) := by decide +kernel
theorem d_Model_keep_27 : decode prog_11_method_10_code 27 = .ok (.iconst 1, 1) := by decide +kernel
theorem d_Model_keep_28 : decode prog_11_method_10_code 28 = .ok (.iadd, 1) := by decide +kernel
theorem d_Model_keep_29 : decode prog_11_method_10_code 29 = .ok (.putfield 113, 3) := by decide +kernel
theorem d_Model_keep_32 : decode prog_11_method_10_code 32 = .ok (.iinc 3 1, 3) := by decide +kernel
theorem d_Model_keep_35 : decode prog_11_method_10_code 35 = .ok (.goto (-33), 3) := by decide +kernel
theorem d_Model_keep_38 : decode prog_11_method_10_code 38 = .ok (.return_, 1) := by decide +kernel
theorem d_Model_addField_0 : decode prog_11_method_11_code 0 = .ok (.iload_n 1, 1) := by decide +kernel
theorem d_Model_addField_1 : decode prog_11_method_11_code 1 = .ok (.istore 4, 2) := by decide +kernel
theorem d_Model_addField_3 : decode prog_11_method_11_code 3 = .ok (.aload_n 0, 1) := by decide +kernel
theorem d_Model_addField_4 : decode prog_11_method_11_code 4 = .ok (.getfield 13, 3) := by decide +kernel
theorem d_Model_addField_7 : decode prog_11_method_11_code 7 = .ok (.iload 4, 2) := by decide +kernel
theorem d_Model_addField_9 : decode prog_11_method_11_code 9 = .ok (.iaload, 1) := by decide +kernel
theorem d_Model_addField_10 : decode prog_11_method_11_code 10 = .ok (.bipush 33, 2) := by decide +kernel
theorem d_Model_addField_12 : decode prog_11_method_11_code 12 = .ok (.if_icmp .lt 33, 3) := by decide +kernel
theorem d_Model_addField_15 : decode prog_11_method_11_code 15 = .ok (.aload_n 0, 1) := by decide +kernel
theorem d_Model_addField_16 : decode prog_11_method_11_code 16 = .ok (.getfield 13, 3) := by decide +kernel
theorem d_Model_addField_19 : decode prog_11_method_11_code 19 = .ok (.iload 4, 2) := by decide +kernel
theorem d_Model_addField_21 : decode prog_11_method_11_code 21 = .ok (.iaload, 1) := by decide +kernel
theorem d_Model_addField_22 : decode prog_11_method_11_code 22 = .ok (.bipush 126, 2) := by decide +kernel
theorem d_Model_addField_24 : decode prog_11_method_11_code 24 = .ok (.if_icmp .gt 21, 3) := by decide +kernel
theorem d_Model_addField_27 : decode prog_11_method_11_code 27 = .ok (.aload_n 0, 1) := by decide +kernel
theorem d_Model_addField_28 : decode prog_11_method_11_code 28 = .ok (.getfield 13, 3) := by decide +kernel
theorem d_Model_addField_31 : decode prog_11_method_11_code 31 = .ok (.iload 4, 2) := by decide +kernel
theorem d_Model_addField_33 : decode prog_11_method_11_code 33 = .ok (.iaload, 1) := by decide +kernel
theorem d_Model_addField_34 : decode prog_11_method_11_code 34 = .ok (.bipush 58, 2) := by decide +kernel
theorem d_Model_addField_36 : decode prog_11_method_11_code 36 = .ok (.if_icmp .eq 9, 3) := by decide +kernel
theorem d_Model_addField_39 : decode prog_11_method_11_code 39 = .ok (.iinc 4 1, 3) := by decide +kernel
theorem d_Model_addField_42 : decode prog_11_method_11_code 42 = .ok (.goto (-39), 3) := by decide +kernel
theorem d_Model_addField_45 : decode prog_11_method_11_code 45 = .ok (.aload_n 0, 1) := by decide +kernel
theorem d_Model_addField_46 : decode prog_11_method_11_code 46 = .ok (.getfield 16, 3) := by decide +kernel
theorem d_Model_addField_49 : decode prog_11_method_11_code 49 = .ok (.aload_n 0, 1) := by decide +kernel
theorem d_Model_addField_50 : decode prog_11_method_11_code 50 = .ok (.getfield 116, 3) := by decide +kernel
theorem d_Model_addField_53 : decode prog_11_method_11_code 53 = .ok (.aload_n 0, 1) := by decide +kernel
theorem d_Model_addField_54 : decode prog_11_method_11_code 54 = .ok (.getfield 113, 3) := by decide +kernel
theorem d_Model_addField_57 : decode prog_11_method_11_code 57 = .ok (.iastore, 1) := by decide +kernel
theorem d_Model_addField_58 : decode prog_11_method_11_code 58 = .ok (.aload_n 0, 1) := by decide +kernel
theorem d_Model_addField_59 : decode prog_11_method_11_code 59 = .ok (.getfield 19, 3) := by decide +kernel
theorem d_Model_addField_62 : decode prog_11_method_11_code 62 = .ok (.aload_n 0, 1) := by decide +kernel
theorem d_Model_addField_63 : decode prog_11_method_11_code 63 = .ok (.getfield 116, 3) := by decide +kernel
theorem d_Model_addField_66 : decode prog_11_method_11_code 66 = .ok (.iload 4, 2) := by decide +kernel
theorem d_Model_addField_68 : decode prog_11_method_11_code 68 = .ok (.iload_n 1, 1) := by decide +kernel
theorem d_Model_addField_69 : decode prog_11_method_11_code 69 = .ok (.isub, 1) := by decide +kernel
theorem d_Model_addField_70 : decode prog_11_method_11_code 70 = .ok (.iastore, 1) := by decide +kernel
theorem d_Model_addField_71 : decode prog_11_method_11_code 71 = .ok (.aload_n 0, 1) := by decide +kernel
theorem d_Model_addField_72 : decode prog_11_method_11_code 72 = .ok (.iload_n 1, 1) := by decide +kernel
theorem d_Model_addField_73 : decode prog_11_method_11_code 73 = .ok (.iload 4, 2) := by decide +kernel
theorem d_Model_addField_75 : decode prog_11_method_11_code 75 = .ok (.invokevirtual 119, 3) := by decide +kernel
theorem d_Model_addField_78 : decode prog_11_method_11_code 78 = .ok (.aload_n 0, 1) := by decide +kernel
theorem d_Model_addField_79 : decode prog_11_method_11_code 79 = .ok (.getfield 22, 3) := by decide +kernel
theorem d_Model_addField_82 : decode prog_11_method_11_code 82 = .ok (.aload_n 0, 1) := by decide +kernel
theorem d_Model_addField_83 : decode prog_11_method_11_code 83 = .ok (.getfield 116, 3) := by decide +kernel
theorem d_Model_addField_86 : decode prog_11_method_11_code 86 = .ok (.aload_n 0, 1) := by decide +kernel
theorem d_Model_addField_87 : decode prog_11_method_11_code 87 = .ok (.getfield 113, 3) := by decide +kernel
theorem d_Model_addField_90 : decode prog_11_method_11_code 90 = .ok (.iastore, 1) := by decide +kernel
theorem d_Model_addField_91 : decode prog_11_method_11_code 91 = .ok (.aload_n 0, 1) := by decide +kernel
theorem d_Model_addField_92 : decode prog_11_method_11_code 92 = .ok (.getfield 25, 3) := by decide +kernel
theorem d_Model_addField_95 : decode prog_11_method_11_code 95 = .ok (.aload_n 0, 1) := by decide +kernel
theorem d_Model_addField_96 : decode prog_11_method_11_code 96 = .ok (.getfield 116, 3) := by decide +kernel
theorem d_Model_addField_99 : decode prog_11_method_11_code 99 = .ok (.iload_n 3, 1) := by decide +kernel
theorem d_Model_addField_100 : decode prog_11_method_11_code 100 = .ok (.iload_n 2, 1) := by decide +kernel
theorem d_Model_addField_101 : decode prog_11_method_11_code 101 = .ok (.isub, 1) := by decide +kernel
theorem d_Model_addField_102 : decode prog_11_method_11_code 102 = .ok (.iconst 1, 1) := by decide +kernel
theorem d_Model_addField_103 : decode prog_11_method_11_code 103 = .ok (.isub, 1) := by decide +kernel
theorem d_Model_addField_104 : decode prog_11_method_11_code 104 = .ok (.iastore, 1) := by decide +kernel
theorem d_Model_addField_105 : decode prog_11_method_11_code 105 = .ok (.aload_n 0, 1) := by decide +kernel
theorem d_Model_addField_106 : decode prog_11_method_11_code 106 = .ok (.iload_n 2, 1) := by decide +kernel
theorem d_Model_addField_107 : decode prog_11_method_11_code 107 = .ok (.iconst 1, 1) := by decide +kernel
theorem d_Model_addField_108 : decode prog_11_method_11_code 108 = .ok (.iadd, 1) := by decide +kernel
theorem d_Model_addField_109 : decode prog_11_method_11_code 109 = .ok (.iload_n 3, 1) := by decide +kernel
theorem d_Model_addField_110 : decode prog_11_method_11_code 110 = .ok (.invokevirtual 119, 3) := by decide +kernel
theorem d_Model_addField_113 : decode prog_11_method_11_code 113 = .ok (.aload_n 0, 1) := by decide +kernel
theorem d_Model_addField_114 : decode prog_11_method_11_code 114 = .ok (.dup, 1) := by decide +kernel
theorem d_Model_addField_115 : decode prog_11_method_11_code 115 = .ok (.getfield 116, 3) := by decide +kernel
theorem d_Model_addField_118 : decode prog_11_method_11_code 118 = .ok (.iconst 1, 1) := by decide +kernel
theorem d_Model_addField_119 : decode prog_11_method_11_code 119 = .ok (.iadd, 1) := by decide +kernel
theorem d_Model_addField_120 : decode prog_11_method_11_code 120 = .ok (.putfield 116, 3) := by decide +kernel
theorem d_Model_addField_123 : decode prog_11_method_11_code 123 = .ok (.return_, 1) := by decide +kernel
theorem d_Model_read_0 : decode prog_11_method_12_code 0 = .ok (.aload_n 0, 1) := by decide +kernel
theorem d_Model_read_1 : decode prog_11_method_12_code 1 = .ok (.iconst 0, 1) := by decide +kernel
theorem d_Model_read_2 : decode prog_11_method_12_code 2 = .ok (.putfield 99, 3) := by decide +kernel
theorem d_Model_read_5 : decode prog_11_method_12_code 5 = .ok (.aload_n 0, 1) := by decide +kernel
theorem d_Model_read_6 : decode prog_11_method_12_code 6 = .ok (.getfield 106, 3) := by decide +kernel
theorem d_Model_read_9 : decode prog_11_method_12_code 9 = .ok (.istore_n 1, 1) := by decide +kernel
theorem d_Model_read_10 : decode prog_11_method_12_code 10 = .ok (.aload_n 0, 1) := by decide +kernel
theorem d_Model_read_11 : decode prog_11_method_12_code 11 = .ok (.iconst 0, 1) := by decide +kernel
theorem d_Model_read_12 : decode prog_11_method_12_code 12 = .ok (.putfield 106, 3) := by decide +kernel
theorem d_Model_read_15 : decode prog_11_method_12_code 15 = .ok (.aload_n 0, 1) := by decide +kernel
theorem d_Model_read_16 : decode prog_11_method_12_code 16 = .ok (.iconst 0, 1) := by decide +kernel
theorem d_Model_read_17 : decode prog_11_method_12_code 17 = .ok (.putfield 116, 3) := by decide +kernel
theorem d_Model_read_20 : decode prog_11_method_12_code 20 = .ok (.aload_n 0, 1) := by decide +kernel
theorem d_Model_read_21 : decode prog_11_method_12_code 21 = .ok (.iconst 0, 1) := by decide +kernel
theorem d_Model_read_22 : decode prog_11_method_12_code 22 = .ok (.putfield 122, 3) := by decide +kernel
theorem d_Model_read_25 : decode prog_11_method_12_code 25 = .ok (.aload_n 0, 1) := by decide +kernel
theorem d_Model_read_26 : decode prog_11_method_12_code 26 = .ok (.iconst 0, 1) := by decide +kernel
theorem d_Model_read_27 : decode prog_11_method_12_code 27 = .ok (.putfield 113, 3) := by decide +kernel
theorem d_Model_read_30 : decode prog_11_method_12_code 30 = .ok (.iconst 0, 1) := by decide +kernel
theorem d_Model_read_31 : decode prog_11_method_12_code 31 = .ok (.istore_n 2, 1) := by decide +kernel
theorem d_Model_read_32 : decode prog_11_method_12_code 32 = .ok (.iconst 0, 1) := by decide +kernel
theorem d_Model_read_33 : decode prog_11_method_12_code 33 = .ok (.istore_n 3, 1) := by decide +kernel
theorem d_Model_read_34 : decode prog_11_method_12_code 34 = .ok (.iload_n 3, 1) := by decide +kernel
theorem d_Model_read_35 : decode prog_11_method_12_code 35 = .ok (.iload_n 1, 1) := by decide +kernel
theorem d_Model_read_36 : decode prog_11_method_12_code 36 = .ok (.if_icmp .ge 193, 3) := by decide +kernel
theorem d_Model_read_39 : decode prog_11_method_12_code 39 = .ok (.iload_n 3, 1) := by decide +kernel
theorem d_Model_read_40 : decode prog_11_method_12_code 40 = .ok (.istore 4, 2) := by decide +kernel
theorem d_Model_read_42 : decode prog_11_method_12_code 42 = .ok (.iload 4, 2) := by decide +kernel
theorem d_Model_read_44 : decode prog_11_method_12_code 44 = .ok (.iload_n 1, 1) := by decide +kernel
theorem d_Model_read_45 : decode prog_11_method_12_code 45 = .ok (.if_icmp .ge 21, 3) := by decide +kernel
theorem d_Model_read_48 : decode prog_11_method_12_code 48 = .ok (.aload_n 0, 1) := by decide +kernel
theorem d_Model_read_49 : decode prog_11_method_12_code 49 = .ok (.getfield 13, 3) := by decide +kernel
theorem d_Model_read_52 : decode prog_11_method_12_code 52 = .ok (.iload 4, 2) := by decide +kernel
theorem d_Model_read_54 : decode prog_11_method_12_code 54 = .ok (.iaload, 1) := by decide +kernel
theorem d_Model_read_55 : decode prog_11_method_12_code 55 = .ok (.bipush 10, 2) := by decide +kernel
theorem d_Model_read_57 : decode prog_11_method_12_code 57 = .ok (.if_icmp .eq 9, 3) := by decide +kernel
theorem d_Model_read_60 : decode prog_11_method_12_code 60 = .ok (.iinc 4 1, 3) := by decide +kernel
theorem d_Model_read_63 : decode prog_11_method_12_code 63 = .ok (.goto (-21), 3) := by decide +kernel
theorem d_Model_read_66 : decode prog_11_method_12_code 66 = .ok (.iload 4, 2) := by decide +kernel
theorem d_Model_read_68 : decode prog_11_method_12_code 68 = .ok (.iload_n 1, 1) := by decide +kernel
theorem d_Model_read_69 : decode prog_11_method_12_code 69 = .ok (.if_icmp .ge 30, 3) := by decide +kernel
theorem d_Model_read_72 : decode prog_11_method_12_code 72 = .ok (.iload 4, 2) := by decide +kernel
theorem d_Model_read_74 : decode prog_11_method_12_code 74 = .ok (.iload_n 3, 1) := by decide +kernel
theorem d_Model_read_75 : decode prog_11_method_12_code 75 = .ok (.if_icmp .le 24, 3) := by decide +kernel
theorem d_Model_read_78 : decode prog_11_method_12_code 78 = .ok (.aload_n 0, 1) := by decide +kernel
theorem d_Model_read_79 : decode prog_11_method_12_code 79 = .ok (.getfield 13, 3) := by decide +kernel
theorem d_Model_read_82 : decode prog_11_method_12_code 82 = .ok (.iload 4, 2) := by decide +kernel
theorem d_Model_read_84 : decode prog_11_method_12_code 84 = .ok (.iconst 1, 1) := by decide +kernel
theorem d_Model_read_85 : decode prog_11_method_12_code 85 = .ok (.isub, 1) := by decide +kernel
theorem d_Model_read_86 : decode prog_11_method_12_code 86 = .ok (.iaload, 1) := by decide +kernel
theorem d_Model_read_87 : decode prog_11_method_12_code 87 = .ok (.bipush 13, 2) := by decide +kernel
theorem d_Model_read_89 : decode prog_11_method_12_code 89 = .ok (.if_icmp .ne 10, 3) := by decide +kernel
theorem d_Model_read_92 : decode prog_11_method_12_code 92 = .ok (.iload 4, 2) := by decide +kernel
theorem d_Model_read_94 : decode prog_11_method_12_code 94 = .ok (.iconst 1, 1) := by decide +kernel
theorem d_Model_read_95 : decode prog_11_method_12_code 95 = .ok (.isub, 1) := by decide +kernel
theorem d_Model_read_96 : decode prog_11_method_12_code 96 = .ok (.goto 5, 3) := by decide +kernel
theorem d_Model_read_99 : decode prog_11_method_12_code 99 = .ok (.iload 4, 2) := by decide +kernel
theorem d_Model_read_101 : decode prog_11_method_12_code 101 = .ok (.istore 5, 2) := by decide +kernel
theorem d_Model_read_103 : decode prog_11_method_12_code 103 = .ok (.aload_n 0, 1) := by decide +kernel
theorem d_Model_read_104 : decode prog_11_method_12_code 104 = .ok (.iload_n 3, 1) := by decide +kernel
theorem d_Model_read_105 : decode prog_11_method_12_code 105 = .ok (.iload 5, 2) := by decide +kernel
theorem d_Model_read_107 : decode prog_11_method_12_code 107 = .ok (.invokevirtual 125, 3) := by decide +kernel
theorem d_Model_read_110 : decode prog_11_method_12_code 110 = .ok (.istore 6, 2) := by decide +kernel
theorem d_Model_read_112 : decode prog_11_method_12_code 112 = .ok (.iload 5, 2) := by decide +kernel
theorem d_Model_read_114 : decode prog_11_method_12_code 114 = .ok (.iload_n 3, 1) := by decide +kernel
theorem d_Model_read_115 : decode prog_11_method_12_code 115 = .ok (.if_icmp .le 60, 3) := by decide +kernel
theorem d_Model_read_118 : decode prog_11_method_12_code 118 = .ok (.aload_n 0, 1) := by decide +kernel
theorem d_Model_read_119 : decode prog_11_method_12_code 119 = .ok (.getfield 13, 3) := by decide +kernel
theorem d_Model_read_122 : decode prog_11_method_12_code 122 = .ok (.iload_n 3, 1) := by decide +kernel
theorem d_Model_read_123 : decode prog_11_method_12_code 123 = .ok (.iaload, 1) := by decide +kernel
theorem d_Model_read_124 : decode prog_11_method_12_code 124 = .ok (.invokestatic 109, 3) := by decide +kernel
theorem d_Model_read_127 : decode prog_11_method_12_code 127 = .ok (.ifCond .eq 48, 3) := by decide +kernel
theorem d_Model_read_130 : decode prog_11_method_12_code 130 = .ok (.iload_n 2, 1) := by decide +kernel
theorem d_Model_read_131 : decode prog_11_method_12_code 131 = .ok (.ifCond .eq 31, 3) := by decide +kernel
theorem d_Model_read_134 : decode prog_11_method_12_code 134 = .ok (.aload_n 0, 1) := by decide +kernel
theorem d_Model_read_135 : decode prog_11_method_12_code 135 = .ok (.iload_n 3, 1) := by decide +kernel
theorem d_Model_read_136 : decode prog_11_method_12_code 136 = .ok (.iload 5, 2) := by decide +kernel
theorem d_Model_read_138 : decode prog_11_method_12_code 138 = .ok (.invokevirtual 119, 3) := by decide +kernel
theorem d_Model_read_141 : decode prog_11_method_12_code 141 = .ok (.aload_n 0, 1) := by decide +kernel
theorem d_Model_read_142 : decode prog_11_method_12_code 142 = .ok (.getfield 25, 3) := by decide +kernel
theorem d_Model_read_145 : decode prog_11_method_12_code 145 = .ok (.aload_n 0, 1) := by decide +kernel
theorem d_Model_read_146 : decode prog_11_method_12_code 146 = .ok (.getfield 116, 3) := by decide +kernel
theorem d_Model_read_149 : decode prog_11_method_12_code 149 = .ok (.iconst 1, 1) := by decide +kernel
theorem d_Model_read_150 : decode prog_11_method_12_code 150 = .ok (.isub, 1) := by decide +kernel
theorem d_Model_read_151 : decode prog_11_method_12_code 151 = .ok (.dup2, 1) := by decide +kernel
theorem d_Model_read_152 : decode prog_11_method_12_code 152 = .ok (.iaload, 1) := by decide +kernel
theorem d_Model_read_153 : decode prog_11_method_12_code 153 = .ok (.iload 5, 2) := by decide +kernel
theorem d_Model_read_155 : decode prog_11_method_12_code 155 = .ok (.iload_n 3, 1) := by decide +kernel
theorem d_Model_read_156 : decode prog_11_method_12_code 156 = .ok (.isub, 1) := by decide +kernel
theorem d_Model_read_157 : decode prog_11_method_12_code 157 = .ok (.iadd, 1) := by decide +kernel
theorem d_Model_read_158 : decode prog_11_method_12_code 158 = .ok (.iastore, 1) := by decide +kernel
theorem d_Model_read_159 : decode prog_11_method_12_code 159 = .ok (.goto 62, 3) := by decide +kernel
theorem d_Model_read_162 : decode prog_11_method_12_code 162 = .ok (.aload_n 0, 1) := by decide +kernel
theorem d_Model_read_163 : decode prog_11_method_12_code 163 = .ok (.dup, 1) := by decide +kernel
theorem d_Model_read_164 : decode prog_11_method_12_code 164 = .ok (.getfield 122, 3) := by decide +kernel
theorem d_Model_read_167 : decode prog_11_method_12_code 167 = .ok (.iconst 1, 1) := by decide +kernel
theorem d_Model_read_168 : decode prog_11_method_12_code 168 = .ok (.iadd, 1) := by decide +kernel
theorem d_Model_read_169 : decode prog_11_method_12_code 169 = .ok (.putfield 122, 3) := by decide +kernel
theorem d_Model_read_172 : decode prog_11_method_12_code 172 = .ok (.goto 49, 3) := by decide +kernel
theorem d_Model_read_175 : decode prog_11_method_12_code 175 = .ok (.iload 6, 2) := by decide +kernel
theorem d_Model_read_177 : decode prog_11_method_12_code 177 = .ok (.iconst (-1), 1) := by decide +kernel
theorem d_Model_read_178 : decode prog_11_method_12_code 178 = .ok (.if_icmp .ne 18, 3) := by decide +kernel
theorem d_Model_read_181 : decode prog_11_method_12_code 181 = .ok (.aload_n 0, 1) := by decide +kernel
theorem d_Model_read_182 : decode prog_11_method_12_code 182 = .ok (.dup, 1) := by decide +kernel
theorem d_Model_read_183 : decode prog_11_method_12_code 183 = .ok (.getfield 122, 3) := by decide +kernel
theorem d_Model_read_186 : decode prog_11_method_12_code 186 = .ok (.iconst 1, 1) := by decide +kernel
theorem d_Model_read_187 : decode prog_11_method_12_code 187 = .ok (.iadd, 1) := by decide +kernel
theorem d_Model_read_188 : decode prog_11_method_12_code 188 = .ok (.putfield 122, 3) := by decide +kernel
theorem d_Model_read_191 : decode prog_11_method_12_code 191 = .ok (.iconst 0, 1) := by decide +kernel
theorem d_Model_read_192 : decode prog_11_method_12_code 192 = .ok (.istore_n 2, 1) := by decide +kernel
theorem d_Model_read_193 : decode prog_11_method_12_code 193 = .ok (.goto 28, 3) := by decide +kernel
theorem d_Model_read_196 : decode prog_11_method_12_code 196 = .ok (.aload_n 0, 1) := by decide +kernel
theorem d_Model_read_197 : decode prog_11_method_12_code 197 = .ok (.getfield 116, 3) := by decide +kernel
theorem d_Model_read_200 : decode prog_11_method_12_code 200 = .ok (.bipush 40, 2) := by decide +kernel
theorem d_Model_read_202 : decode prog_11_method_12_code 202 = .ok (.if_icmp .ne 8, 3) := by decide +kernel
theorem d_Model_read_205 : decode prog_11_method_12_code 205 = .ok (.aload_n 0, 1) := by decide +kernel
theorem d_Model_read_206 : decode prog_11_method_12_code 206 = .ok (.getfield 116, 3) := by decide +kernel
theorem d_Model_read_209 : decode prog_11_method_12_code 209 = .ok (.ireturn, 1) := by decide +kernel
theorem d_Model_read_210 : decode prog_11_method_12_code 210 = .ok (.aload_n 0, 1) := by decide +kernel
theorem d_Model_read_211 : decode prog_11_method_12_code 211 = .ok (.iload_n 3, 1) := by decide +kernel
theorem d_Model_read_212 : decode prog_11_method_12_code 212 = .ok (.iload 6, 2) := by decide +kernel
theorem d_Model_read_214 : decode prog_11_method_12_code 214 = .ok (.iload 5, 2) := by decide +kernel
theorem d_Model_read_216 : decode prog_11_method_12_code 216 = .ok (.invokevirtual 129, 3) := by decide +kernel
theorem d_Model_read_219 : decode prog_11_method_12_code 219 = .ok (.iconst 1, 1) := by decide +kernel
theorem d_Model_read_220 : decode prog_11_method_12_code 220 = .ok (.istore_n 2, 1) := by decide +kernel
theorem d_Model_read_221 : decode prog_11_method_12_code 221 = .ok (.iload 4, 2) := by decide +kernel
theorem d_Model_read_223 : decode prog_11_method_12_code 223 = .ok (.iconst 1, 1) := by decide +kernel
theorem d_Model_read_224 : decode prog_11_method_12_code 224 = .ok (.iadd, 1) := by decide +kernel
theorem d_Model_read_225 : decode prog_11_method_12_code 225 = .ok (.istore_n 3, 1) := by decide +kernel
theorem d_Model_read_226 : decode prog_11_method_12_code 226 = .ok (.goto (-192), 3) := by decide +kernel
theorem d_Model_read_229 : decode prog_11_method_12_code 229 = .ok (.aload_n 0, 1) := by decide +kernel
theorem d_Model_read_230 : decode prog_11_method_12_code 230 = .ok (.getfield 116, 3) := by decide +kernel
theorem d_Model_read_233 : decode prog_11_method_12_code 233 = .ok (.ireturn, 1) := by decide +kernel
theorem d_Model_at_0 : decode prog_11_method_37_code 0 = .ok (.aload_n 0, 1) := by decide +kernel
theorem d_Model_at_1 : decode prog_11_method_37_code 1 = .ok (.iload_n 1, 1) := by decide +kernel
theorem d_Model_at_2 : decode prog_11_method_37_code 2 = .ok (.iload_n 2, 1) := by decide +kernel
theorem d_Model_at_3 : decode prog_11_method_37_code 3 = .ok (.invokevirtual 194, 3) := by decide +kernel
theorem d_Model_at_6 : decode prog_11_method_37_code 6 = .ok (.istore 4, 2) := by decide +kernel
theorem d_Model_at_8 : decode prog_11_method_37_code 8 = .ok (.iload_n 3, 1) := by decide +kernel
theorem d_Model_at_9 : decode prog_11_method_37_code 9 = .ok (.ifCond .lt 9, 3) := by decide +kernel
theorem d_Model_at_12 : decode prog_11_method_37_code 12 = .ok (.iload_n 3, 1) := by decide +kernel
theorem d_Model_at_13 : decode prog_11_method_37_code 13 = .ok (.iload 4, 2) := by decide +kernel
theorem d_Model_at_15 : decode prog_11_method_37_code 15 = .ok (.if_icmp .lt 7, 3) := by decide +kernel
theorem d_Model_at_18 : decode prog_11_method_37_code 18 = .ok (.iconst (-1), 1) := by decide +kernel
theorem d_Model_at_19 : decode prog_11_method_37_code 19 = .ok (.goto 22, 3) := by decide +kernel
theorem d_Model_at_22 : decode prog_11_method_37_code 22 = .ok (.aload_n 0, 1) := by decide +kernel
theorem d_Model_at_23 : decode prog_11_method_37_code 23 = .ok (.getfield 46, 3) := by decide +kernel
theorem d_Model_at_26 : decode prog_11_method_37_code 26 = .ok (.aload_n 0, 1) := by decide +kernel
theorem d_Model_at_27 : decode prog_11_method_37_code 27 = .ok (.getfield 55, 3) := by decide +kernel
theorem d_Model_at_30 : decode prog_11_method_37_code 30 = .ok (.sipush 1000, 3) := by decide +kernel
theorem d_Model_at_33 : decode prog_11_method_37_code 33 = .ok (.iload_n 1, 1) := by decide +kernel
theorem d_Model_at_34 : decode prog_11_method_37_code 34 = .ok (.imul, 1) := by decide +kernel
theorem d_Model_at_35 : decode prog_11_method_37_code 35 = .ok (.iload_n 2, 1) := by decide +kernel
theorem d_Model_at_36 : decode prog_11_method_37_code 36 = .ok (.iadd, 1) := by decide +kernel
theorem d_Model_at_37 : decode prog_11_method_37_code 37 = .ok (.iaload, 1) := by decide +kernel
theorem d_Model_at_38 : decode prog_11_method_37_code 38 = .ok (.iload_n 3, 1) := by decide +kernel
theorem d_Model_at_39 : decode prog_11_method_37_code 39 = .ok (.iadd, 1) := by decide +kernel
theorem d_Model_at_40 : decode prog_11_method_37_code 40 = .ok (.iaload, 1) := by decide +kernel
theorem d_Model_at_41 : decode prog_11_method_37_code 41 = .ok (.ireturn, 1) := by decide +kernel
theorem d_Model_is_0 : decode prog_11_method_27_code 0 = .ok (.aload_n 0, 1) := by decide +kernel
theorem d_Model_is_1 : decode prog_11_method_27_code 1 = .ok (.getfield 31, 3) := by decide +kernel
theorem d_Model_is_4 : decode prog_11_method_27_code 4 = .ok (.iload_n 1, 1) := by decide +kernel
theorem d_Model_is_5 : decode prog_11_method_27_code 5 = .ok (.iaload, 1) := by decide +kernel
theorem d_Model_is_6 : decode prog_11_method_27_code 6 = .ok (.iconst 3, 1) := by decide +kernel
theorem d_Model_is_7 : decode prog_11_method_27_code 7 = .ok (.if_icmp .ne 17, 3) := by decide +kernel
theorem d_Model_is_10 : decode prog_11_method_27_code 10 = .ok (.aload_n 0, 1) := by decide +kernel
theorem d_Model_is_11 : decode prog_11_method_27_code 11 = .ok (.getfield 34, 3) := by decide +kernel
theorem d_Model_is_14 : decode prog_11_method_27_code 14 = .ok (.iload_n 1, 1) := by decide +kernel
theorem d_Model_is_15 : decode prog_11_method_27_code 15 = .ok (.iaload, 1) := by decide +kernel
theorem d_Model_is_16 : decode prog_11_method_27_code 16 = .ok (.iload_n 2, 1) := by decide +kernel
theorem d_Model_is_17 : decode prog_11_method_27_code 17 = .ok (.if_icmp .ne 7, 3) := by decide +kernel
theorem d_Model_is_20 : decode prog_11_method_27_code 20 = .ok (.iconst 1, 1) := by decide +kernel
theorem d_Model_is_21 : decode prog_11_method_27_code 21 = .ok (.goto 4, 3) := by decide +kernel
theorem d_Model_is_24 : decode prog_11_method_27_code 24 = .ok (.iconst 0, 1) := by decide +kernel
theorem d_Model_is_25 : decode prog_11_method_27_code 25 = .ok (.ireturn, 1) := by decide +kernel
theorem d_Model_addWord_0 : decode prog_11_method_34_code 0 = .ok (.aload_n 0, 1) := by decide +kernel
theorem d_Model_addWord_1 : decode prog_11_method_34_code 1 = .ok (.getfield 37, 3) := by decide +kernel
theorem d_Model_addWord_4 : decode prog_11_method_34_code 4 = .ok (.iload_n 2, 1) := by decide +kernel
theorem d_Model_addWord_5 : decode prog_11_method_34_code 5 = .ok (.iaload, 1) := by decide +kernel
theorem d_Model_addWord_6 : decode prog_11_method_34_code 6 = .ok (.istore_n 3, 1) := by decide +kernel
theorem d_Model_addWord_7 : decode prog_11_method_34_code 7 = .ok (.iload_n 3, 1) := by decide +kernel
theorem d_Model_addWord_8 : decode prog_11_method_34_code 8 = .ok (.aload_n 0, 1) := by decide +kernel
theorem d_Model_addWord_9 : decode prog_11_method_34_code 9 = .ok (.getfield 40, 3) := by decide +kernel
theorem d_Model_addWord_12 : decode prog_11_method_34_code 12 = .ok (.iload_n 2, 1) := by decide +kernel
theorem d_Model_addWord_13 : decode prog_11_method_34_code 13 = .ok (.iaload, 1) := by decide +kernel
theorem d_Model_addWord_14 : decode prog_11_method_34_code 14 = .ok (.if_icmp .ge 20, 3) := by decide +kernel
theorem d_Model_addWord_17 : decode prog_11_method_34_code 17 = .ok (.aload_n 0, 1) := by decide +kernel
theorem d_Model_addWord_18 : decode prog_11_method_34_code 18 = .ok (.iload_n 1, 1) := by decide +kernel
theorem d_Model_addWord_19 : decode prog_11_method_34_code 19 = .ok (.aload_n 0, 1) := by decide +kernel
theorem d_Model_addWord_20 : decode prog_11_method_34_code 20 = .ok (.getfield 43, 3) := by decide +kernel
theorem d_Model_addWord_23 : decode prog_11_method_34_code 23 = .ok (.iload_n 3, 1) := by decide +kernel
theorem d_Model_addWord_24 : decode prog_11_method_34_code 24 = .ok (.iaload, 1) := by decide +kernel
theorem d_Model_addWord_25 : decode prog_11_method_34_code 25 = .ok (.invokevirtual 191, 3) := by decide +kernel
theorem d_Model_addWord_28 : decode prog_11_method_34_code 28 = .ok (.iinc 3 1, 3) := by decide +kernel
theorem d_Model_addWord_31 : decode prog_11_method_34_code 31 = .ok (.goto (-24), 3) := by decide +kernel
theorem d_Model_addWord_34 : decode prog_11_method_34_code 34 = .ok (.return_, 1) := by decide +kernel
theorem d_Model_next_0 : decode prog_11_method_28_code 0 = .ok (.iload_n 1, 1) := by decide +kernel
theorem d_Model_next_1 : decode prog_11_method_28_code 1 = .ok (.istore_n 3, 1) := by decide +kernel
theorem d_Model_next_2 : decode prog_11_method_28_code 2 = .ok (.iload_n 3, 1) := by decide +kernel
theorem d_Model_next_3 : decode prog_11_method_28_code 3 = .ok (.iload_n 2, 1) := by decide +kernel
theorem d_Model_next_4 : decode prog_11_method_28_code 4 = .ok (.if_icmp .ge 18, 3) := by decide +kernel
theorem d_Model_next_7 : decode prog_11_method_28_code 7 = .ok (.aload_n 0, 1) := by decide +kernel
theorem d_Model_next_8 : decode prog_11_method_28_code 8 = .ok (.getfield 31, 3) := by decide +kernel
theorem d_Model_next_11 : decode prog_11_method_28_code 11 = .ok (.iload_n 3, 1) := by decide +kernel
theorem d_Model_next_12 : decode prog_11_method_28_code 12 = .ok (.iaload, 1) := by decide +kernel
theorem d_Model_next_13 : decode prog_11_method_28_code 13 = .ok (.ifCond .ne 9, 3) := by decide +kernel
theorem d_Model_next_16 : decode prog_11_method_28_code 16 = .ok (.iinc 3 1, 3) := by decide +kernel
theorem d_Model_next_19 : decode prog_11_method_28_code 19 = .ok (.goto (-17), 3) := by decide +kernel
theorem d_Model_next_22 : decode prog_11_method_28_code 22 = .ok (.iload_n 3, 1) := by decide +kernel
theorem d_Model_next_23 : decode prog_11_method_28_code 23 = .ok (.ireturn, 1) := by decide +kernel
theorem d_Model_makeName_0 : decode prog_11_method_39_code 0 = .ok (.aload_n 0, 1) := by decide +kernel
theorem d_Model_makeName_1 : decode prog_11_method_39_code 1 = .ok (.iload_n 1, 1) := by decide +kernel
theorem d_Model_makeName_2 : decode prog_11_method_39_code 2 = .ok (.invokevirtual 204, 3) := by decide +kernel
theorem d_Model_makeName_5 : decode prog_11_method_39_code 5 = .ok (.iconst 0, 1) := by decide +kernel
theorem d_Model_makeName_6 : decode prog_11_method_39_code 6 = .ok (.istore 4, 2) := by decide +kernel
theorem d_Model_makeName_8 : decode prog_11_method_39_code 8 = .ok (.aload_n 0, 1) := by decide +kernel
theorem d_Model_makeName_9 : decode prog_11_method_39_code 9 = .ok (.iload_n 2, 1) := by decide +kernel
theorem d_Model_makeName_10 : decode prog_11_method_39_code 10 = .ok (.iload_n 3, 1) := by decide +kernel
theorem d_Model_makeName_11 : decode prog_11_method_39_code 11 = .ok (.invokevirtual 197, 3) := by decide +kernel
theorem d_Model_makeName_14 : decode prog_11_method_39_code 14 = .ok (.istore 5, 2) := by decide +kernel
theorem d_Model_makeName_16 : decode prog_11_method_39_code 16 = .ok (.iload 5, 2) := by decide +kernel
theorem d_Model_makeName_18 : decode prog_11_method_39_code 18 = .ok (.iload_n 3, 1) := by decide +kernel
theorem d_Model_makeName_19 : decode prog_11_method_39_code 19 = .ok (.if_icmp .ge 50, 3) := by decide +kernel
theorem d_Model_makeName_22 : decode prog_11_method_39_code 22 = .ok (.iload 4, 2) := by decide +kernel
theorem d_Model_makeName_24 : decode prog_11_method_39_code 24 = .ok (.ifCond .eq 21, 3) := by decide +kernel
theorem d_Model_makeName_27 : decode prog_11_method_39_code 27 = .ok (.aload_n 0, 1) := by decide +kernel
theorem d_Model_makeName_28 : decode prog_11_method_39_code 28 = .ok (.iload 5, 2) := by decide +kernel
theorem d_Model_makeName_30 : decode prog_11_method_39_code 30 = .ok (.bipush 46, 2) := by decide +kernel
theorem d_Model_makeName_32 : decode prog_11_method_39_code 32 = .ok (.invokevirtual 200, 3) := by decide +kernel
theorem d_Model_makeName_35 : decode prog_11_method_39_code 35 = .ok (.ifCond .ne 10, 3) := by decide +kernel
theorem d_Model_makeName_38 : decode prog_11_method_39_code 38 = .ok (.aload_n 0, 1) := by decide +kernel
theorem d_Model_makeName_39 : decode prog_11_method_39_code 39 = .ok (.iload_n 1, 1) := by decide +kernel
theorem d_Model_makeName_40 : decode prog_11_method_39_code 40 = .ok (.bipush 32, 2) := by decide +kernel
theorem d_Model_makeName_42 : decode prog_11_method_39_code 42 = .ok (.invokevirtual 191, 3) := by decide +kernel
theorem d_Model_makeName_45 : decode prog_11_method_39_code 45 = .ok (.aload_n 0, 1) := by decide +kernel
theorem d_Model_makeName_46 : decode prog_11_method_39_code 46 = .ok (.iload_n 1, 1) := by decide +kernel
theorem d_Model_makeName_47 : decode prog_11_method_39_code 47 = .ok (.iload 5, 2) := by decide +kernel
theorem d_Model_makeName_49 : decode prog_11_method_39_code 49 = .ok (.invokevirtual 207, 3) := by decide +kernel
theorem d_Model_makeName_52 : decode prog_11_method_39_code 52 = .ok (.iconst 1, 1) := by decide +kernel
theorem d_Model_makeName_53 : decode prog_11_method_39_code 53 = .ok (.istore 4, 2) := by decide +kernel
theorem d_Model_makeName_55 : decode prog_11_method_39_code 55 = .ok (.aload_n 0, 1) := by decide +kernel
theorem d_Model_makeName_56 : decode prog_11_method_39_code 56 = .ok (.iload 5, 2) := by decide +kernel
theorem d_Model_makeName_58 : decode prog_11_method_39_code 58 = .ok (.iconst 1, 1) := by decide +kernel
theorem d_Model_makeName_59 : decode prog_11_method_39_code 59 = .ok (.iadd, 1) := by decide +kernel
theorem d_Model_makeName_60 : decode prog_11_method_39_code 60 = .ok (.iload_n 3, 1) := by decide +kernel
theorem d_Model_makeName_61 : decode prog_11_method_39_code 61 = .ok (.invokevirtual 197, 3) := by decide +kernel
theorem d_Model_makeName_64 : decode prog_11_method_39_code 64 = .ok (.istore 5, 2) := by decide +kernel
theorem d_Model_makeName_66 : decode prog_11_method_39_code 66 = .ok (.goto (-50), 3) := by decide +kernel
theorem d_Model_makeName_69 : decode prog_11_method_39_code 69 = .ok (.aload_n 0, 1) := by decide +kernel
theorem d_Model_makeName_70 : decode prog_11_method_39_code 70 = .ok (.iload_n 1, 1) := by decide +kernel
theorem d_Model_makeName_71 : decode prog_11_method_39_code 71 = .ok (.invokevirtual 210, 3) := by decide +kernel
theorem d_Model_makeName_74 : decode prog_11_method_39_code 74 = .ok (.return_, 1) := by decide +kernel
theorem d_Model_isRowWord_0 : decode prog_11_method_41_code 0 = .ok (.iload_n 1, 1) := by decide +kernel
theorem d_Model_isRowWord_1 : decode prog_11_method_41_code 1 = .ok (.iload_n 2, 1) := by decide +kernel
theorem d_Model_isRowWord_2 : decode prog_11_method_41_code 2 = .ok (.if_icmp .ge 31, 3) := by decide +kernel
theorem d_Model_isRowWord_5 : decode prog_11_method_41_code 5 = .ok (.aload_n 0, 1) := by decide +kernel
theorem d_Model_isRowWord_6 : decode prog_11_method_41_code 6 = .ok (.getfield 31, 3) := by decide +kernel
theorem d_Model_isRowWord_9 : decode prog_11_method_41_code 9 = .ok (.iload_n 1, 1) := by decide +kernel
theorem d_Model_isRowWord_10 : decode prog_11_method_41_code 10 = .ok (.iaload, 1) := by decide +kernel
theorem d_Model_isRowWord_11 : decode prog_11_method_41_code 11 = .ok (.iconst 4, 1) := by decide +kernel
theorem d_Model_isRowWord_12 : decode prog_11_method_41_code 12 = .ok (.if_icmp .eq 17, 3) := by decide +kernel
theorem d_Model_isRowWord_15 : decode prog_11_method_41_code 15 = .ok (.iload_n 3, 1) := by decide +kernel
theorem d_Model_isRowWord_16 : decode prog_11_method_41_code 16 = .ok (.ifCond .eq 17, 3) := by decide +kernel
theorem d_Model_isRowWord_19 : decode prog_11_method_41_code 19 = .ok (.aload_n 0, 1) := by decide +kernel
theorem d_Model_isRowWord_20 : decode prog_11_method_41_code 20 = .ok (.getfield 31, 3) := by decide +kernel
theorem d_Model_isRowWord_23 : decode prog_11_method_41_code 23 = .ok (.iload_n 1, 1) := by decide +kernel
theorem d_Model_isRowWord_24 : decode prog_11_method_41_code 24 = .ok (.iaload, 1) := by decide +kernel
theorem d_Model_isRowWord_25 : decode prog_11_method_41_code 25 = .ok (.iconst 1, 1) := by decide +kernel
theorem d_Model_isRowWord_26 : decode prog_11_method_41_code 26 = .ok (.if_icmp .ne 7, 3) := by decide +kernel
theorem d_Model_isRowWord_29 : decode prog_11_method_41_code 29 = .ok (.iconst 1, 1) := by decide +kernel
theorem d_Model_isRowWord_30 : decode prog_11_method_41_code 30 = .ok (.goto 4, 3) := by decide +kernel
theorem d_Model_isRowWord_33 : decode prog_11_method_41_code 33 = .ok (.iconst 0, 1) := by decide +kernel
theorem d_Model_isRowWord_34 : decode prog_11_method_41_code 34 = .ok (.ireturn, 1) := by decide +kernel
theorem d_Model_rowEnd_0 : decode prog_11_method_40_code 0 = .ok (.aload_n 0, 1) := by decide +kernel
theorem d_Model_rowEnd_1 : decode prog_11_method_40_code 1 = .ok (.iload_n 1, 1) := by decide +kernel
theorem d_Model_rowEnd_2 : decode prog_11_method_40_code 2 = .ok (.iload_n 2, 1) := by decide +kernel
theorem d_Model_rowEnd_3 : decode prog_11_method_40_code 3 = .ok (.invokevirtual 197, 3) := by decide +kernel
theorem d_Model_rowEnd_6 : decode prog_11_method_40_code 6 = .ok (.istore 4, 2) := by decide +kernel
theorem d_Model_rowEnd_8 : decode prog_11_method_40_code 8 = .ok (.aload_n 0, 1) := by decide +kernel
theorem d_Model_rowEnd_9 : decode prog_11_method_40_code 9 = .ok (.iload 4, 2) := by decide +kernel
theorem d_Model_rowEnd_11 : decode prog_11_method_40_code 11 = .ok (.iload_n 2, 1) := by decide +kernel
theorem d_Model_rowEnd_12 : decode prog_11_method_40_code 12 = .ok (.iload_n 3, 1) := by decide +kernel
theorem d_Model_rowEnd_13 : decode prog_11_method_40_code 13 = .ok (.invokevirtual 213, 3) := by decide +kernel
theorem d_Model_rowEnd_16 : decode prog_11_method_40_code 16 = .ok (.ifCond .ne 5, 3) := by decide +kernel
theorem d_Model_rowEnd_19 : decode prog_11_method_40_code 19 = .ok (.iload_n 1, 1) := by decide +kernel
theorem d_Model_rowEnd_20 : decode prog_11_method_40_code 20 = .ok (.ireturn, 1) := by decide +kernel
theorem d_Model_rowEnd_21 : decode prog_11_method_40_code 21 = .ok (.iinc 4 1, 3) := by decide +kernel
theorem d_Model_rowEnd_24 : decode prog_11_method_40_code 24 = .ok (.iconst 1, 1) := by decide +kernel
theorem d_Model_rowEnd_25 : decode prog_11_method_40_code 25 = .ok (.istore 5, 2) := by decide +kernel
theorem d_Model_rowEnd_27 : decode prog_11_method_40_code 27 = .ok (.iload 5, 2) := by decide +kernel
theorem d_Model_rowEnd_29 : decode prog_11_method_40_code 29 = .ok (.ifCond .eq 93, 3) := by decide +kernel
theorem d_Model_rowEnd_32 : decode prog_11_method_40_code 32 = .ok (.aload_n 0, 1) := by decide +kernel
theorem d_Model_rowEnd_33 : decode prog_11_method_40_code 33 = .ok (.iload 4, 2) := by decide +kernel
theorem d_Model_rowEnd_35 : decode prog_11_method_40_code 35 = .ok (.iload_n 2, 1) := by decide +kernel
theorem d_Model_rowEnd_36 : decode prog_11_method_40_code 36 = .ok (.invokevirtual 197, 3) := by decide +kernel
theorem d_Model_rowEnd_39 : decode prog_11_method_40_code 39 = .ok (.istore 6, 2) := by decide +kernel
theorem d_Model_rowEnd_41 : decode prog_11_method_40_code 41 = .ok (.iload 6, 2) := by decide +kernel
theorem d_Model_rowEnd_43 : decode prog_11_method_40_code 43 = .ok (.iload_n 2, 1) := by decide +kernel
theorem d_Model_rowEnd_44 : decode prog_11_method_40_code 44 = .ok (.if_icmp .ge 26, 3) := by decide +kernel
theorem d_Model_rowEnd_47 : decode prog_11_method_40_code 47 = .ok (.aload_n 0, 1) := by decide +kernel
theorem d_Model_rowEnd_48 : decode prog_11_method_40_code 48 = .ok (.iload 6, 2) := by decide +kernel
theorem d_Model_rowEnd_50 : decode prog_11_method_40_code 50 = .ok (.bipush 46, 2) := by decide +kernel
theorem d_Model_rowEnd_52 : decode prog_11_method_40_code 52 = .ok (.invokevirtual 200, 3) := by decide +kernel
theorem d_Model_rowEnd_55 : decode prog_11_method_40_code 55 = .ok (.ifCond .eq 15, 3) := by decide +kernel
theorem d_Model_rowEnd_58 : decode prog_11_method_40_code 58 = .ok (.aload_n 0, 1) := by decide +kernel
theorem d_Model_rowEnd_59 : decode prog_11_method_40_code 59 = .ok (.iload 6, 2) := by decide +kernel
theorem d_Model_rowEnd_61 : decode prog_11_method_40_code 61 = .ok (.iconst 1, 1) := by decide +kernel
theorem d_Model_rowEnd_62 : decode prog_11_method_40_code 62 = .ok (.iadd, 1) := by decide +kernel
theorem d_Model_rowEnd_63 : decode prog_11_method_40_code 63 = .ok (.iload_n 2, 1) := by decide +kernel
theorem d_Model_rowEnd_64 : decode prog_11_method_40_code 64 = .ok (.invokevirtual 197, 3) := by decide +kernel
theorem d_Model_rowEnd_67 : decode prog_11_method_40_code 67 = .ok (.goto 4, 3) := by decide +kernel
theorem d_Model_rowEnd_70 : decode prog_11_method_40_code 70 = .ok (.iload_n 2, 1) := by decide +kernel
theorem d_Model_rowEnd_71 : decode prog_11_method_40_code 71 = .ok (.istore 7, 2) := by decide +kernel
theorem d_Model_rowEnd_73 : decode prog_11_method_40_code 73 = .ok (.iload 6, 2) := by decide +kernel
theorem d_Model_rowEnd_75 : decode prog_11_method_40_code 75 = .ok (.iload_n 2, 1) := by decide +kernel
theorem d_Model_rowEnd_76 : decode prog_11_method_40_code 76 = .ok (.if_icmp .ge 29, 3) := by decide +kernel
theorem d_Model_rowEnd_79 : decode prog_11_method_40_code 79 = .ok (.aload_n 0, 1) := by decide +kernel
theorem d_Model_rowEnd_80 : decode prog_11_method_40_code 80 = .ok (.iload 6, 2) := by decide +kernel
theorem d_Model_rowEnd_82 : decode prog_11_method_40_code 82 = .ok (.bipush 46, 2) := by decide +kernel
theorem d_Model_rowEnd_84 : decode prog_11_method_40_code 84 = .ok (.invokevirtual 200, 3) := by decide +kernel
theorem d_Model_rowEnd_87 : decode prog_11_method_40_code 87 = .ok (.ifCond .eq 18, 3) := by decide +kernel
theorem d_Model_rowEnd_90 : decode prog_11_method_40_code 90 = .ok (.aload_n 0, 1) := by decide +kernel
theorem d_Model_rowEnd_91 : decode prog_11_method_40_code 91 = .ok (.iload 7, 2) := by decide +kernel
theorem d_Model_rowEnd_93 : decode prog_11_method_40_code 93 = .ok (.iload_n 2, 1) := by decide +kernel
theorem d_Model_rowEnd_94 : decode prog_11_method_40_code 94 = .ok (.iload_n 3, 1) := by decide +kernel
theorem d_Model_rowEnd_95 : decode prog_11_method_40_code 95 = .ok (.invokevirtual 213, 3) := by decide +kernel
theorem d_Model_rowEnd_98 : decode prog_11_method_40_code 98 = .ok (.ifCond .eq 7, 3) := by decide +kernel
theorem d_Model_rowEnd_101 : decode prog_11_method_40_code 101 = .ok (.iconst 1, 1) := by decide +kernel
theorem d_Model_rowEnd_102 : decode prog_11_method_40_code 102 = .ok (.goto 4, 3) := by decide +kernel
theorem d_Model_rowEnd_105 : decode prog_11_method_40_code 105 = .ok (.iconst 0, 1) := by decide +kernel
theorem d_Model_rowEnd_106 : decode prog_11_method_40_code 106 = .ok (.istore 5, 2) := by decide +kernel
theorem d_Model_rowEnd_108 : decode prog_11_method_40_code 108 = .ok (.iload 5, 2) := by decide +kernel
theorem d_Model_rowEnd_110 : decode prog_11_method_40_code 110 = .ok (.ifCond .eq 9, 3) := by decide +kernel
theorem d_Model_rowEnd_113 : decode prog_11_method_40_code 113 = .ok (.iload 7, 2) := by decide +kernel
theorem d_Model_rowEnd_115 : decode prog_11_method_40_code 115 = .ok (.iconst 1, 1) := by decide +kernel
theorem d_Model_rowEnd_116 : decode prog_11_method_40_code 116 = .ok (.iadd, 1) := by decide +kernel
theorem d_Model_rowEnd_117 : decode prog_11_method_40_code 117 = .ok (.istore 4, 2) := by decide +kernel
theorem d_Model_rowEnd_119 : decode prog_11_method_40_code 119 = .ok (.goto (-92), 3) := by decide +kernel
theorem d_Model_rowEnd_122 : decode prog_11_method_40_code 122 = .ok (.iload 4, 2) := by decide +kernel
theorem d_Model_rowEnd_124 : decode prog_11_method_40_code 124 = .ok (.ireturn, 1) := by decide +kernel
theorem d_Model_isSpec_0 : decode prog_11_method_42_code 0 = .ok (.aload_n 0, 1) := by decide +kernel
theorem d_Model_isSpec_1 : decode prog_11_method_42_code 1 = .ok (.aload_n 0, 1) := by decide +kernel
theorem d_Model_isSpec_2 : decode prog_11_method_42_code 2 = .ok (.iload_n 1, 1) := by decide +kernel
theorem d_Model_isSpec_3 : decode prog_11_method_42_code 3 = .ok (.iload_n 2, 1) := by decide +kernel
theorem d_Model_isSpec_4 : decode prog_11_method_42_code 4 = .ok (.iconst 1, 1) := by decide +kernel
theorem d_Model_isSpec_5 : decode prog_11_method_42_code 5 = .ok (.invokevirtual 217, 3) := by decide +kernel
theorem d_Model_isSpec_8 : decode prog_11_method_42_code 8 = .ok (.putfield 221, 3) := by decide +kernel
theorem d_Model_isSpec_11 : decode prog_11_method_42_code 11 = .ok (.aload_n 0, 1) := by decide +kernel
theorem d_Model_isSpec_12 : decode prog_11_method_42_code 12 = .ok (.iload_n 2, 1) := by decide +kernel
theorem d_Model_isSpec_13 : decode prog_11_method_42_code 13 = .ok (.putfield 224, 3) := by decide +kernel
theorem d_Model_isSpec_16 : decode prog_11_method_42_code 16 = .ok (.aload_n 0, 1) := by decide +kernel
theorem d_Model_isSpec_17 : decode prog_11_method_42_code 17 = .ok (.getfield 221, 3) := by decide +kernel
theorem d_Model_isSpec_20 : decode prog_11_method_42_code 20 = .ok (.iload_n 1, 1) := by decide +kernel
theorem d_Model_isSpec_21 : decode prog_11_method_42_code 21 = .ok (.if_icmp .ne 5, 3) := by decide +kernel
theorem d_Model_isSpec_24 : decode prog_11_method_42_code 24 = .ok (.iconst 0, 1) := by decide +kernel
theorem d_Model_isSpec_25 : decode prog_11_method_42_code 25 = .ok (.ireturn, 1) := by decide +kernel
theorem d_Model_isSpec_26 : decode prog_11_method_42_code 26 = .ok (.aload_n 0, 1) := by decide +kernel
theorem d_Model_isSpec_27 : decode prog_11_method_42_code 27 = .ok (.aload_n 0, 1) := by decide +kernel
theorem d_Model_isSpec_28 : decode prog_11_method_42_code 28 = .ok (.getfield 221, 3) := by decide +kernel
theorem d_Model_isSpec_31 : decode prog_11_method_42_code 31 = .ok (.iload_n 2, 1) := by decide +kernel
theorem d_Model_isSpec_32 : decode prog_11_method_42_code 32 = .ok (.invokevirtual 197, 3) := by decide +kernel
theorem d_Model_isSpec_35 : decode prog_11_method_42_code 35 = .ok (.istore_n 3, 1) := by decide +kernel
theorem d_Model_isSpec_36 : decode prog_11_method_42_code 36 = .ok (.iload_n 3, 1) := by decide +kernel
theorem d_Model_isSpec_37 : decode prog_11_method_42_code 37 = .ok (.iload_n 2, 1) := by decide +kernel
theorem d_Model_isSpec_38 : decode prog_11_method_42_code 38 = .ok (.if_icmp .ne 5, 3) := by decide +kernel
theorem d_Model_isSpec_41 : decode prog_11_method_42_code 41 = .ok (.iconst 1, 1) := by decide +kernel
theorem d_Model_isSpec_42 : decode prog_11_method_42_code 42 = .ok (.ireturn, 1) := by decide +kernel
theorem d_Model_isSpec_43 : decode prog_11_method_42_code 43 = .ok (.aload_n 0, 1) := by decide +kernel
theorem d_Model_isSpec_44 : decode prog_11_method_42_code 44 = .ok (.iload_n 3, 1) := by decide +kernel
theorem d_Model_isSpec_45 : decode prog_11_method_42_code 45 = .ok (.bipush 64, 2) := by decide +kernel
theorem d_Model_isSpec_47 : decode prog_11_method_42_code 47 = .ok (.invokevirtual 200, 3) := by decide +kernel
theorem d_Model_isSpec_50 : decode prog_11_method_42_code 50 = .ok (.ifCond .ne 5, 3) := by decide +kernel
theorem d_Model_isSpec_53 : decode prog_11_method_42_code 53 = .ok (.iconst 0, 1) := by decide +kernel
theorem d_Model_isSpec_54 : decode prog_11_method_42_code 54 = .ok (.ireturn, 1) := by decide +kernel
theorem d_Model_isSpec_55 : decode prog_11_method_42_code 55 = .ok (.aload_n 0, 1) := by decide +kernel
theorem d_Model_isSpec_56 : decode prog_11_method_42_code 56 = .ok (.iload_n 3, 1) := by decide +kernel
theorem d_Model_isSpec_57 : decode prog_11_method_42_code 57 = .ok (.iconst 1, 1) := by decide +kernel
theorem d_Model_isSpec_58 : decode prog_11_method_42_code 58 = .ok (.iadd, 1) := by decide +kernel
theorem d_Model_isSpec_59 : decode prog_11_method_42_code 59 = .ok (.putfield 224, 3) := by decide +kernel
theorem d_Model_isSpec_62 : decode prog_11_method_42_code 62 = .ok (.aload_n 0, 1) := by decide +kernel
theorem d_Model_isSpec_63 : decode prog_11_method_42_code 63 = .ok (.aload_n 0, 1) := by decide +kernel
theorem d_Model_isSpec_64 : decode prog_11_method_42_code 64 = .ok (.getfield 224, 3) := by decide +kernel
theorem d_Model_isSpec_67 : decode prog_11_method_42_code 67 = .ok (.iload_n 2, 1) := by decide +kernel
theorem d_Model_isSpec_68 : decode prog_11_method_42_code 68 = .ok (.invokevirtual 197, 3) := by decide +kernel
theorem d_Model_isSpec_71 : decode prog_11_method_42_code 71 = .ok (.istore 4, 2) := by decide +kernel
theorem d_Model_isSpec_73 : decode prog_11_method_42_code 73 = .ok (.iload 4, 2) := by decide +kernel
theorem d_Model_isSpec_75 : decode prog_11_method_42_code 75 = .ok (.iload_n 2, 1) := by decide +kernel
theorem d_Model_isSpec_76 : decode prog_11_method_42_code 76 = .ok (.if_icmp .ge 33, 3) := by decide +kernel
theorem d_Model_isSpec_79 : decode prog_11_method_42_code 79 = .ok (.aload_n 0, 1) := by decide +kernel
theorem d_Model_isSpec_80 : decode prog_11_method_42_code 80 = .ok (.getfield 31, 3) := by decide +kernel
theorem d_Model_isSpec_83 : decode prog_11_method_42_code 83 = .ok (.iload 4, 2) := by decide +kernel
theorem d_Model_isSpec_85 : decode prog_11_method_42_code 85 = .ok (.iaload, 1) := by decide +kernel
theorem d_Model_isSpec_86 : decode prog_11_method_42_code 86 = .ok (.iconst 2, 1) := by decide +kernel
theorem d_Model_isSpec_87 : decode prog_11_method_42_code 87 = .ok (.if_icmp .ne 22, 3) := by decide +kernel
theorem d_Model_isSpec_90 : decode prog_11_method_42_code 90 = .ok (.aload_n 0, 1) := by decide +kernel
theorem d_Model_isSpec_91 : decode prog_11_method_42_code 91 = .ok (.iload 4, 2) := by decide +kernel
theorem d_Model_isSpec_93 : decode prog_11_method_42_code 93 = .ok (.iconst 1, 1) := by decide +kernel
theorem d_Model_isSpec_94 : decode prog_11_method_42_code 94 = .ok (.iadd, 1) := by decide +kernel
theorem d_Model_isSpec_95 : decode prog_11_method_42_code 95 = .ok (.iload_n 2, 1) := by decide +kernel
theorem d_Model_isSpec_96 : decode prog_11_method_42_code 96 = .ok (.invokevirtual 197, 3) := by decide +kernel
theorem d_Model_isSpec_99 : decode prog_11_method_42_code 99 = .ok (.iload_n 2, 1) := by decide +kernel
theorem d_Model_isSpec_100 : decode prog_11_method_42_code 100 = .ok (.if_icmp .ne 7, 3) := by decide +kernel
theorem d_Model_isSpec_103 : decode prog_11_method_42_code 103 = .ok (.iconst 1, 1) := by decide +kernel
theorem d_Model_isSpec_104 : decode prog_11_method_42_code 104 = .ok (.goto 4, 3) := by decide +kernel
theorem d_Model_isSpec_107 : decode prog_11_method_42_code 107 = .ok (.iconst 0, 1) := by decide +kernel
theorem d_Model_isSpec_108 : decode prog_11_method_42_code 108 = .ok (.ireturn, 1) := by decide +kernel
theorem d_Model_isSpec_109 : decode prog_11_method_42_code 109 = .ok (.aload_n 0, 1) := by decide +kernel
theorem d_Model_isSpec_110 : decode prog_11_method_42_code 110 = .ok (.aload_n 0, 1) := by decide +kernel
theorem d_Model_isSpec_111 : decode prog_11_method_42_code 111 = .ok (.getfield 224, 3) := by decide +kernel
theorem d_Model_isSpec_114 : decode prog_11_method_42_code 114 = .ok (.iload_n 2, 1) := by decide +kernel
theorem d_Model_isSpec_115 : decode prog_11_method_42_code 115 = .ok (.iconst 0, 1) := by decide +kernel
theorem d_Model_isSpec_116 : decode prog_11_method_42_code 116 = .ok (.invokevirtual 217, 3) := by decide +kernel
theorem d_Model_isSpec_119 : decode prog_11_method_42_code 119 = .ok (.istore 5, 2) := by decide +kernel
theorem d_Model_isSpec_121 : decode prog_11_method_42_code 121 = .ok (.iload 5, 2) := by decide +kernel
theorem d_Model_isSpec_123 : decode prog_11_method_42_code 123 = .ok (.aload_n 0, 1) := by decide +kernel
theorem d_Model_isSpec_124 : decode prog_11_method_42_code 124 = .ok (.getfield 224, 3) := by decide +kernel
theorem d_Model_isSpec_127 : decode prog_11_method_42_code 127 = .ok (.if_icmp .le 18, 3) := by decide +kernel
theorem d_Model_isSpec_130 : decode prog_11_method_42_code 130 = .ok (.aload_n 0, 1) := by decide +kernel
theorem d_Model_isSpec_131 : decode prog_11_method_42_code 131 = .ok (.iload 5, 2) := by decide +kernel
theorem d_Model_isSpec_133 : decode prog_11_method_42_code 133 = .ok (.iload_n 2, 1) := by decide +kernel
theorem d_Model_isSpec_134 : decode prog_11_method_42_code 134 = .ok (.invokevirtual 197, 3) := by decide +kernel
theorem d_Model_isSpec_137 : decode prog_11_method_42_code 137 = .ok (.iload_n 2, 1) := by decide +kernel
theorem d_Model_isSpec_138 : decode prog_11_method_42_code 138 = .ok (.if_icmp .ne 7, 3) := by decide +kernel
theorem d_Model_isSpec_141 : decode prog_11_method_42_code 141 = .ok (.iconst 1, 1) := by decide +kernel
theorem d_Model_isSpec_142 : decode prog_11_method_42_code 142 = .ok (.goto 4, 3) := by decide +kernel
theorem d_Model_isSpec_145 : decode prog_11_method_42_code 145 = .ok (.iconst 0, 1) := by decide +kernel
theorem d_Model_isSpec_146 : decode prog_11_method_42_code 146 = .ok (.ireturn, 1) := by decide +kernel
theorem d_Model_isName_0 : decode prog_11_method_38_code 0 = .ok (.iconst 0, 1) := by decide +kernel
theorem d_Model_isName_1 : decode prog_11_method_38_code 1 = .ok (.istore_n 3, 1) := by decide +kernel
theorem d_Model_isName_2 : decode prog_11_method_38_code 2 = .ok (.aload_n 0, 1) := by decide +kernel
theorem d_Model_isName_3 : decode prog_11_method_38_code 3 = .ok (.iload_n 1, 1) := by decide +kernel
theorem d_Model_isName_4 : decode prog_11_method_38_code 4 = .ok (.iload_n 2, 1) := by decide +kernel
theorem d_Model_isName_5 : decode prog_11_method_38_code 5 = .ok (.invokevirtual 197, 3) := by decide +kernel
theorem d_Model_isName_8 : decode prog_11_method_38_code 8 = .ok (.istore 4, 2) := by decide +kernel
theorem d_Model_isName_10 : decode prog_11_method_38_code 10 = .ok (.iload 4, 2) := by decide +kernel
theorem d_Model_isName_12 : decode prog_11_method_38_code 12 = .ok (.iload_n 2, 1) := by decide +kernel
theorem d_Model_isName_13 : decode prog_11_method_38_code 13 = .ok (.if_icmp .ge 55, 3) := by decide +kernel
theorem d_Model_isName_16 : decode prog_11_method_38_code 16 = .ok (.aload_n 0, 1) := by decide +kernel
theorem d_Model_isName_17 : decode prog_11_method_38_code 17 = .ok (.getfield 31, 3) := by decide +kernel
theorem d_Model_isName_20 : decode prog_11_method_38_code 20 = .ok (.iload 4, 2) := by decide +kernel
theorem d_Model_isName_22 : decode prog_11_method_38_code 22 = .ok (.iaload, 1) := by decide +kernel
theorem d_Model_isName_23 : decode prog_11_method_38_code 23 = .ok (.iconst 4, 1) := by decide +kernel
theorem d_Model_isName_24 : decode prog_11_method_38_code 24 = .ok (.if_icmp .eq 27, 3) := by decide +kernel
theorem d_Model_isName_27 : decode prog_11_method_38_code 27 = .ok (.aload_n 0, 1) := by decide +kernel
theorem d_Model_isName_28 : decode prog_11_method_38_code 28 = .ok (.getfield 31, 3) := by decide +kernel
theorem d_Model_isName_31 : decode prog_11_method_38_code 31 = .ok (.iload 4, 2) := by decide +kernel
theorem d_Model_isName_33 : decode prog_11_method_38_code 33 = .ok (.iaload, 1) := by decide +kernel
theorem d_Model_isName_34 : decode prog_11_method_38_code 34 = .ok (.iconst 1, 1) := by decide +kernel
theorem d_Model_isName_35 : decode prog_11_method_38_code 35 = .ok (.if_icmp .eq 16, 3) := by decide +kernel
theorem d_Model_isName_38 : decode prog_11_method_38_code 38 = .ok (.aload_n 0, 1) := by decide +kernel
theorem d_Model_isName_39 : decode prog_11_method_38_code 39 = .ok (.iload 4, 2) := by decide +kernel
theorem d_Model_isName_41 : decode prog_11_method_38_code 41 = .ok (.bipush 46, 2) := by decide +kernel
theorem d_Model_isName_43 : decode prog_11_method_38_code 43 = .ok (.invokevirtual 200, 3) := by decide +kernel
theorem d_Model_isName_46 : decode prog_11_method_38_code 46 = .ok (.ifCond .ne 5, 3) := by decide +kernel
theorem d_Model_isName_49 : decode prog_11_method_38_code 49 = .ok (.iconst 0, 1) := by decide +kernel
theorem d_Model_isName_50 : decode prog_11_method_38_code 50 = .ok (.ireturn, 1) := by decide +kernel
theorem d_Model_isName_51 : decode prog_11_method_38_code 51 = .ok (.iinc 3 1, 3) := by decide +kernel
theorem d_Model_isName_54 : decode prog_11_method_38_code 54 = .ok (.aload_n 0, 1) := by decide +kernel
theorem d_Model_isName_55 : decode prog_11_method_38_code 55 = .ok (.iload 4, 2) := by decide +kernel
theorem d_Model_isName_57 : decode prog_11_method_38_code 57 = .ok (.iconst 1, 1) := by decide +kernel
theorem d_Model_isName_58 : decode prog_11_method_38_code 58 = .ok (.iadd, 1) := by decide +kernel
theorem d_Model_isName_59 : decode prog_11_method_38_code 59 = .ok (.iload_n 2, 1) := by decide +kernel
theorem d_Model_isName_60 : decode prog_11_method_38_code 60 = .ok (.invokevirtual 197, 3) := by decide +kernel
theorem d_Model_isName_63 : decode prog_11_method_38_code 63 = .ok (.istore 4, 2) := by decide +kernel
theorem d_Model_isName_65 : decode prog_11_method_38_code 65 = .ok (.goto (-55), 3) := by decide +kernel
theorem d_Model_isName_68 : decode prog_11_method_38_code 68 = .ok (.iload_n 3, 1) := by decide +kernel
theorem d_Model_isName_69 : decode prog_11_method_38_code 69 = .ok (.ifCond .le 7, 3) := by decide +kernel
theorem d_Model_isName_72 : decode prog_11_method_38_code 72 = .ok (.iconst 1, 1) := by decide +kernel
theorem d_Model_isName_73 : decode prog_11_method_38_code 73 = .ok (.goto 4, 3) := by decide +kernel
theorem d_Model_isName_76 : decode prog_11_method_38_code 76 = .ok (.iconst 0, 1) := by decide +kernel
theorem d_Model_isName_77 : decode prog_11_method_38_code 77 = .ok (.ireturn, 1) := by decide +kernel
theorem d_Model_behindRoute_0 : decode prog_11_method_45_code 0 = .ok (.aload_n 0, 1) := by decide +kernel
theorem d_Model_behindRoute_1 : decode prog_11_method_45_code 1 = .ok (.iload_n 1, 1) := by decide +kernel
theorem d_Model_behindRoute_2 : decode prog_11_method_45_code 2 = .ok (.iload_n 2, 1) := by decide +kernel
theorem d_Model_behindRoute_3 : decode prog_11_method_45_code 3 = .ok (.invokevirtual 197, 3) := by decide +kernel
theorem d_Model_behindRoute_6 : decode prog_11_method_45_code 6 = .ok (.istore_n 3, 1) := by decide +kernel
theorem d_Model_behindRoute_7 : decode prog_11_method_45_code 7 = .ok (.iload_n 3, 1) := by decide +kernel
theorem d_Model_behindRoute_8 : decode prog_11_method_45_code 8 = .ok (.iload_n 2, 1) := by decide +kernel
theorem d_Model_behindRoute_9 : decode prog_11_method_45_code 9 = .ok (.if_icmp .ge 71, 3) := by decide +kernel
theorem d_Model_behindRoute_12 : decode prog_11_method_45_code 12 = .ok (.aload_n 0, 1) := by decide +kernel
theorem d_Model_behindRoute_13 : decode prog_11_method_45_code 13 = .ok (.iload_n 3, 1) := by decide +kernel
theorem d_Model_behindRoute_14 : decode prog_11_method_45_code 14 = .ok (.bipush 58, 2) := by decide +kernel
theorem d_Model_behindRoute_16 : decode prog_11_method_45_code 16 = .ok (.invokevirtual 200, 3) := by decide +kernel
theorem d_Model_behindRoute_19 : decode prog_11_method_45_code 19 = .ok (.ifCond .eq 7, 3) := by decide +kernel
theorem d_Model_behindRoute_22 : decode prog_11_method_45_code 22 = .ok (.iload_n 3, 1) := by decide +kernel
theorem d_Model_behindRoute_23 : decode prog_11_method_45_code 23 = .ok (.iconst 1, 1) := by decide +kernel
theorem d_Model_behindRoute_24 : decode prog_11_method_45_code 24 = .ok (.iadd, 1) := by decide +kernel
theorem d_Model_behindRoute_25 : decode prog_11_method_45_code 25 = .ok (.ireturn, 1) := by decide +kernel
theorem d_Model_behindRoute_26 : decode prog_11_method_45_code 26 = .ok (.aload_n 0, 1) := by decide +kernel
theorem d_Model_behindRoute_27 : decode prog_11_method_45_code 27 = .ok (.getfield 31, 3) := by decide +kernel
theorem d_Model_behindRoute_30 : decode prog_11_method_45_code 30 = .ok (.iload_n 3, 1) := by decide +kernel
theorem d_Model_behindRoute_31 : decode prog_11_method_45_code 31 = .ok (.iaload, 1) := by decide +kernel
theorem d_Model_behindRoute_32 : decode prog_11_method_45_code 32 = .ok (.iconst 4, 1) := by decide +kernel
theorem d_Model_behindRoute_33 : decode prog_11_method_45_code 33 = .ok (.if_icmp .eq 35, 3) := by decide +kernel
theorem d_Model_behindRoute_36 : decode prog_11_method_45_code 36 = .ok (.aload_n 0, 1) := by decide +kernel
theorem d_Model_behindRoute_37 : decode prog_11_method_45_code 37 = .ok (.iload_n 3, 1) := by decide +kernel
theorem d_Model_behindRoute_38 : decode prog_11_method_45_code 38 = .ok (.bipush 64, 2) := by decide +kernel
theorem d_Model_behindRoute_40 : decode prog_11_method_45_code 40 = .ok (.invokevirtual 200, 3) := by decide +kernel
theorem d_Model_behindRoute_43 : decode prog_11_method_45_code 43 = .ok (.ifCond .ne 25, 3) := by decide +kernel
theorem d_Model_behindRoute_46 : decode prog_11_method_45_code 46 = .ok (.aload_n 0, 1) := by decide +kernel
theorem d_Model_behindRoute_47 : decode prog_11_method_45_code 47 = .ok (.iload_n 3, 1) := by decide +kernel
theorem d_Model_behindRoute_48 : decode prog_11_method_45_code 48 = .ok (.bipush 44, 2) := by decide +kernel
theorem d_Model_behindRoute_50 : decode prog_11_method_45_code 50 = .ok (.invokevirtual 200, 3) := by decide +kernel
theorem d_Model_behindRoute_53 : decode prog_11_method_45_code 53 = .ok (.ifCond .ne 15, 3) := by decide +kernel
theorem d_Model_behindRoute_56 : decode prog_11_method_45_code 56 = .ok (.aload_n 0, 1) := by decide +kernel
theorem d_Model_behindRoute_57 : decode prog_11_method_45_code 57 = .ok (.iload_n 3, 1) := by decide +kernel
theorem d_Model_behindRoute_58 : decode prog_11_method_45_code 58 = .ok (.bipush 46, 2) := by decide +kernel
theorem d_Model_behindRoute_60 : decode prog_11_method_45_code 60 = .ok (.invokevirtual 200, 3) := by decide +kernel
theorem d_Model_behindRoute_63 : decode prog_11_method_45_code 63 = .ok (.ifCond .ne 5, 3) := by decide +kernel
theorem d_Model_behindRoute_66 : decode prog_11_method_45_code 66 = .ok (.iload_n 1, 1) := by decide +kernel
theorem d_Model_behindRoute_67 : decode prog_11_method_45_code 67 = .ok (.ireturn, 1) := by decide +kernel
theorem d_Model_behindRoute_68 : decode prog_11_method_45_code 68 = .ok (.aload_n 0, 1) := by decide +kernel
theorem d_Model_behindRoute_69 : decode prog_11_method_45_code 69 = .ok (.iload_n 3, 1) := by decide +kernel
theorem d_Model_behindRoute_70 : decode prog_11_method_45_code 70 = .ok (.iconst 1, 1) := by decide +kernel
theorem d_Model_behindRoute_71 : decode prog_11_method_45_code 71 = .ok (.iadd, 1) := by decide +kernel
theorem d_Model_behindRoute_72 : decode prog_11_method_45_code 72 = .ok (.iload_n 2, 1) := by decide +kernel
theorem d_Model_behindRoute_73 : decode prog_11_method_45_code 73 = .ok (.invokevirtual 197, 3) := by decide +kernel
theorem d_Model_behindRoute_76 : decode prog_11_method_45_code 76 = .ok (.istore_n 3, 1) := by decide +kernel
theorem d_Model_behindRoute_77 : decode prog_11_method_45_code 77 = .ok (.goto (-70), 3) := by decide +kernel
theorem d_Model_behindRoute_80 : decode prog_11_method_45_code 80 = .ok (.iload_n 1, 1) := by decide +kernel
theorem d_Model_behindRoute_81 : decode prog_11_method_45_code 81 = .ok (.ireturn, 1) := by decide +kernel
theorem d_Model_makeWords_0 : decode prog_11_method_43_code 0 = .ok (.aload_n 0, 1) := by decide +kernel
theorem d_Model_makeWords_1 : decode prog_11_method_43_code 1 = .ok (.iload_n 1, 1) := by decide +kernel
theorem d_Model_makeWords_2 : decode prog_11_method_43_code 2 = .ok (.invokevirtual 204, 3) := by decide +kernel
theorem d_Model_makeWords_5 : decode prog_11_method_43_code 5 = .ok (.aload_n 0, 1) := by decide +kernel
theorem d_Model_makeWords_6 : decode prog_11_method_43_code 6 = .ok (.iload_n 2, 1) := by decide +kernel
theorem d_Model_makeWords_7 : decode prog_11_method_43_code 7 = .ok (.iload_n 3, 1) := by decide +kernel
theorem d_Model_makeWords_8 : decode prog_11_method_43_code 8 = .ok (.invokevirtual 197, 3) := by decide +kernel
theorem d_Model_makeWords_11 : decode prog_11_method_43_code 11 = .ok (.istore 4, 2) := by decide +kernel
theorem d_Model_makeWords_13 : decode prog_11_method_43_code 13 = .ok (.iload 4, 2) := by decide +kernel
theorem d_Model_makeWords_15 : decode prog_11_method_43_code 15 = .ok (.iload_n 3, 1) := by decide +kernel
theorem d_Model_makeWords_16 : decode prog_11_method_43_code 16 = .ok (.if_icmp .ge 60, 3) := by decide +kernel
theorem d_Model_makeWords_19 : decode prog_11_method_43_code 19 = .ok (.aload_n 0, 1) := by decide +kernel
theorem d_Model_makeWords_20 : decode prog_11_method_43_code 20 = .ok (.getfield 31, 3) := by decide +kernel
theorem d_Model_makeWords_23 : decode prog_11_method_43_code 23 = .ok (.iload 4, 2) := by decide +kernel
theorem d_Model_makeWords_25 : decode prog_11_method_43_code 25 = .ok (.iaload, 1) := by decide +kernel
theorem d_Model_makeWords_26 : decode prog_11_method_43_code 26 = .ok (.iconst 2, 1) := by decide +kernel
theorem d_Model_makeWords_27 : decode prog_11_method_43_code 27 = .ok (.if_icmp .ne 10, 3) := by decide +kernel
theorem d_Model_makeWords_30 : decode prog_11_method_43_code 30 = .ok (.aload_n 0, 1) := by decide +kernel
theorem d_Model_makeWords_31 : decode prog_11_method_43_code 31 = .ok (.iload_n 1, 1) := by decide +kernel
theorem d_Model_makeWords_32 : decode prog_11_method_43_code 32 = .ok (.bipush 91, 2) := by decide +kernel
theorem d_Model_makeWords_34 : decode prog_11_method_43_code 34 = .ok (.invokevirtual 191, 3) := by decide +kernel
theorem d_Model_makeWords_37 : decode prog_11_method_43_code 37 = .ok (.aload_n 0, 1) := by decide +kernel
theorem d_Model_makeWords_38 : decode prog_11_method_43_code 38 = .ok (.iload_n 1, 1) := by decide +kernel
theorem d_Model_makeWords_39 : decode prog_11_method_43_code 39 = .ok (.iload 4, 2) := by decide +kernel
theorem d_Model_makeWords_41 : decode prog_11_method_43_code 41 = .ok (.invokevirtual 207, 3) := by decide +kernel
theorem d_Model_makeWords_44 : decode prog_11_method_43_code 44 = .ok (.aload_n 0, 1) := by decide +kernel
theorem d_Model_makeWords_45 : decode prog_11_method_43_code 45 = .ok (.getfield 31, 3) := by decide +kernel
theorem d_Model_makeWords_48 : decode prog_11_method_43_code 48 = .ok (.iload 4, 2) := by decide +kernel
theorem d_Model_makeWords_50 : decode prog_11_method_43_code 50 = .ok (.iaload, 1) := by decide +kernel
theorem d_Model_makeWords_51 : decode prog_11_method_43_code 51 = .ok (.iconst 2, 1) := by decide +kernel
theorem d_Model_makeWords_52 : decode prog_11_method_43_code 52 = .ok (.if_icmp .ne 10, 3) := by decide +kernel
theorem d_Model_makeWords_55 : decode prog_11_method_43_code 55 = .ok (.aload_n 0, 1) := by decide +kernel
theorem d_Model_makeWords_56 : decode prog_11_method_43_code 56 = .ok (.iload_n 1, 1) := by decide +kernel
theorem d_Model_makeWords_57 : decode prog_11_method_43_code 57 = .ok (.bipush 93, 2) := by decide +kernel
theorem d_Model_makeWords_59 : decode prog_11_method_43_code 59 = .ok (.invokevirtual 191, 3) := by decide +kernel
theorem d_Model_makeWords_62 : decode prog_11_method_43_code 62 = .ok (.aload_n 0, 1) := by decide +kernel
theorem d_Model_makeWords_63 : decode prog_11_method_43_code 63 = .ok (.iload 4, 2) := by decide +kernel
theorem d_Model_makeWords_65 : decode prog_11_method_43_code 65 = .ok (.iconst 1, 1) := by decide +kernel
theorem d_Model_makeWords_66 : decode prog_11_method_43_code 66 = .ok (.iadd, 1) := by decide +kernel
theorem d_Model_makeWords_67 : decode prog_11_method_43_code 67 = .ok (.iload_n 3, 1) := by decide +kernel
theorem d_Model_makeWords_68 : decode prog_11_method_43_code 68 = .ok (.invokevirtual 197, 3) := by decide +kernel
theorem d_Model_makeWords_71 : decode prog_11_method_43_code 71 = .ok (.istore 4, 2) := by decide +kernel
theorem d_Model_makeWords_73 : decode prog_11_method_43_code 73 = .ok (.goto (-60), 3) := by decide +kernel
theorem d_Model_makeWords_76 : decode prog_11_method_43_code 76 = .ok (.aload_n 0, 1) := by decide +kernel
theorem d_Model_makeWords_77 : decode prog_11_method_43_code 77 = .ok (.iload_n 1, 1) := by decide +kernel
theorem d_Model_makeWords_78 : decode prog_11_method_43_code 78 = .ok (.invokevirtual 210, 3) := by decide +kernel
theorem d_Model_makeWords_81 : decode prog_11_method_43_code 81 = .ok (.return_, 1) := by decide +kernel
theorem d_Model_makeComment_0 : decode prog_11_method_44_code 0 = .ok (.iconst (-1), 1) := by decide +kernel
theorem d_Model_makeComment_1 : decode prog_11_method_44_code 1 = .ok (.istore_n 3, 1) := by decide +kernel
theorem d_Model_makeComment_2 : decode prog_11_method_44_code 2 = .ok (.aload_n 0, 1) := by decide +kernel
theorem d_Model_makeComment_3 : decode prog_11_method_44_code 3 = .ok (.iload_n 1, 1) := by decide +kernel
theorem d_Model_makeComment_4 : decode prog_11_method_44_code 4 = .ok (.iload_n 2, 1) := by decide +kernel
theorem d_Model_makeComment_5 : decode prog_11_method_44_code 5 = .ok (.invokevirtual 197, 3) := by decide +kernel
theorem d_Model_makeComment_8 : decode prog_11_method_44_code 8 = .ok (.iconst 1, 1) := by decide +kernel
theorem d_Model_makeComment_9 : decode prog_11_method_44_code 9 = .ok (.iadd, 1) := by decide +kernel
theorem d_Model_makeComment_10 : decode prog_11_method_44_code 10 = .ok (.istore 4, 2) := by decide +kernel
theorem d_Model_makeComment_12 : decode prog_11_method_44_code 12 = .ok (.iload 4, 2) := by decide +kernel
theorem d_Model_makeComment_14 : decode prog_11_method_44_code 14 = .ok (.iload_n 2, 1) := by decide +kernel
theorem d_Model_makeComment_15 : decode prog_11_method_44_code 15 = .ok (.if_icmp .ge 22, 3) := by decide +kernel
theorem d_Model_makeComment_18 : decode prog_11_method_44_code 18 = .ok (.aload_n 0, 1) := by decide +kernel
theorem d_Model_makeComment_19 : decode prog_11_method_44_code 19 = .ok (.getfield 31, 3) := by decide +kernel
theorem d_Model_makeComment_22 : decode prog_11_method_44_code 22 = .ok (.iload 4, 2) := by decide +kernel
theorem d_Model_makeComment_24 : decode prog_11_method_44_code 24 = .ok (.iaload, 1) := by decide +kernel
theorem d_Model_makeComment_25 : decode prog_11_method_44_code 25 = .ok (.ifCond .ne 6, 3) := by decide +kernel
theorem d_Model_makeComment_28 : decode prog_11_method_44_code 28 = .ok (.iload 4, 2) := by decide +kernel
theorem d_Model_makeComment_30 : decode prog_11_method_44_code 30 = .ok (.istore_n 3, 1) := by decide +kernel
theorem d_Model_makeComment_31 : decode prog_11_method_44_code 31 = .ok (.iinc 4 1, 3) := by decide +kernel
theorem d_Model_makeComment_34 : decode prog_11_method_44_code 34 = .ok (.goto (-22), 3) := by decide +kernel
theorem d_Model_makeComment_37 : decode prog_11_method_44_code 37 = .ok (.aload_n 0, 1) := by decide +kernel
theorem d_Model_makeComment_38 : decode prog_11_method_44_code 38 = .ok (.iconst 0, 1) := by decide +kernel
theorem d_Model_makeComment_39 : decode prog_11_method_44_code 39 = .ok (.invokevirtual 204, 3) := by decide +kernel
theorem d_Model_makeComment_42 : decode prog_11_method_44_code 42 = .ok (.iload_n 3, 1) := by decide +kernel
theorem d_Model_makeComment_43 : decode prog_11_method_44_code 43 = .ok (.iconst (-1), 1) := by decide +kernel
theorem d_Model_makeComment_44 : decode prog_11_method_44_code 44 = .ok (.if_icmp .eq 9, 3) := by decide +kernel
theorem d_Model_makeComment_47 : decode prog_11_method_44_code 47 = .ok (.aload_n 0, 1) := by decide +kernel
theorem d_Model_makeComment_48 : decode prog_11_method_44_code 48 = .ok (.iconst 0, 1) := by decide +kernel
theorem d_Model_makeComment_49 : decode prog_11_method_44_code 49 = .ok (.iload_n 3, 1) := by decide +kernel
