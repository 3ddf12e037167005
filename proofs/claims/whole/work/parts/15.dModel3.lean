theorem d_Model_length_25 : decode prog_11_method_36_code 25 = .ok (.iaload, 1) := by decide +kernel
theorem d_Model_length_26 : decode prog_11_method_36_code 26 = .ok (.if_icmp .lt 7, 3) := by decide +kernel
theorem d_Model_length_29 : decode prog_11_method_36_code 29 = .ok (.iconst (-1), 1) := by decide +kernel
theorem d_Model_length_30 : decode prog_11_method_36_code 30 = .ok (.goto 15, 3) := by decide +kernel
theorem d_Model_length_33 : decode prog_11_method_36_code 33 = .ok (.aload_n 0, 1) := by decide +kernel
theorem d_Model_length_34 : decode prog_11_method_36_code 34 = .ok (.getfield 58, 3) := by decide +kernel
theorem d_Model_length_37 : decode prog_11_method_36_code 37 = .ok (.sipush 1000, 3) := by decide +kernel
theorem d_Model_length_40 : decode prog_11_method_36_code 40 = .ok (.iload_n 1, 1) := by decide +kernel
theorem d_Model_length_41 : decode prog_11_method_36_code 41 = .ok (.imul, 1) := by decide +kernel
theorem d_Model_length_42 : decode prog_11_method_36_code 42 = .ok (.iload_n 2, 1) := by decide +kernel
theorem d_Model_length_43 : decode prog_11_method_36_code 43 = .ok (.iadd, 1) := by decide +kernel
theorem d_Model_length_44 : decode prog_11_method_36_code 44 = .ok (.iaload, 1) := by decide +kernel
theorem d_Model_length_45 : decode prog_11_method_36_code 45 = .ok (.ireturn, 1) := by decide +kernel
theorem d_Model_isBlank_0 : decode prog_11_method_6_code 0 = .ok (.iload_n 0, 1) := by decide +kernel
theorem d_Model_isBlank_1 : decode prog_11_method_6_code 1 = .ok (.bipush 32, 2) := by decide +kernel
theorem d_Model_isBlank_3 : decode prog_11_method_6_code 3 = .ok (.if_icmp .eq 9, 3) := by decide +kernel
theorem d_Model_isBlank_6 : decode prog_11_method_6_code 6 = .ok (.iload_n 0, 1) := by decide +kernel
theorem d_Model_isBlank_7 : decode prog_11_method_6_code 7 = .ok (.bipush 9, 2) := by decide +kernel
theorem d_Model_isBlank_9 : decode prog_11_method_6_code 9 = .ok (.if_icmp .ne 7, 3) := by decide +kernel
theorem d_Model_isBlank_12 : decode prog_11_method_6_code 12 = .ok (.iconst 1, 1) := by decide +kernel
theorem d_Model_isBlank_13 : decode prog_11_method_6_code 13 = .ok (.goto 4, 3) := by decide +kernel
theorem d_Model_isBlank_16 : decode prog_11_method_6_code 16 = .ok (.iconst 0, 1) := by decide +kernel
theorem d_Model_isBlank_17 : decode prog_11_method_6_code 17 = .ok (.ireturn, 1) := by decide +kernel
theorem d_Model_identities_0 : decode prog_11_method_50_code 0 = .ok (.aload_n 0, 1) := by decide +kernel
theorem d_Model_identities_1 : decode prog_11_method_50_code 1 = .ok (.aload_n 0, 1) := by decide +kernel
theorem d_Model_identities_2 : decode prog_11_method_50_code 2 = .ok (.iload_n 1, 1) := by decide +kernel
theorem d_Model_identities_3 : decode prog_11_method_50_code 3 = .ok (.invokevirtual 137, 3) := by decide +kernel
theorem d_Model_identities_6 : decode prog_11_method_50_code 6 = .ok (.ifCond .eq 7, 3) := by decide +kernel
theorem d_Model_identities_9 : decode prog_11_method_50_code 9 = .ok (.iconst 0, 1) := by decide +kernel
theorem d_Model_identities_10 : decode prog_11_method_50_code 10 = .ok (.goto 4, 3) := by decide +kernel
theorem d_Model_identities_13 : decode prog_11_method_50_code 13 = .ok (.iconst 1, 1) := by decide +kernel
theorem d_Model_identities_14 : decode prog_11_method_50_code 14 = .ok (.putfield 99, 3) := by decide +kernel
theorem d_Model_identities_17 : decode prog_11_method_50_code 17 = .ok (.aload_n 0, 1) := by decide +kernel
theorem d_Model_identities_18 : decode prog_11_method_50_code 18 = .ok (.getfield 99, 3) := by decide +kernel
theorem d_Model_identities_21 : decode prog_11_method_50_code 21 = .ok (.ifCond .eq 5, 3) := by decide +kernel
theorem d_Model_identities_24 : decode prog_11_method_50_code 24 = .ok (.iconst 0, 1) := by decide +kernel
theorem d_Model_identities_25 : decode prog_11_method_50_code 25 = .ok (.ireturn, 1) := by decide +kernel
theorem d_Model_identities_26 : decode prog_11_method_50_code 26 = .ok (.aload_n 0, 1) := by decide +kernel
theorem d_Model_identities_27 : decode prog_11_method_50_code 27 = .ok (.iconst 4, 1) := by decide +kernel
theorem d_Model_identities_28 : decode prog_11_method_50_code 28 = .ok (.iconst 4, 1) := by decide +kernel
theorem d_Model_identities_29 : decode prog_11_method_50_code 29 = .ok (.iconst 1, 1) := by decide +kernel
theorem d_Model_identities_30 : decode prog_11_method_50_code 30 = .ok (.invokevirtual 255, 3) := by decide +kernel
theorem d_Model_identities_33 : decode prog_11_method_50_code 33 = .ok (.aload_n 0, 1) := by decide +kernel
theorem d_Model_identities_34 : decode prog_11_method_50_code 34 = .ok (.getfield 22, 3) := by decide +kernel
theorem d_Model_identities_37 : decode prog_11_method_50_code 37 = .ok (.iload_n 1, 1) := by decide +kernel
theorem d_Model_identities_38 : decode prog_11_method_50_code 38 = .ok (.iaload, 1) := by decide +kernel
theorem d_Model_identities_39 : decode prog_11_method_50_code 39 = .ok (.istore_n 2, 1) := by decide +kernel
theorem d_Model_identities_40 : decode prog_11_method_50_code 40 = .ok (.iload_n 2, 1) := by decide +kernel
theorem d_Model_identities_41 : decode prog_11_method_50_code 41 = .ok (.aload_n 0, 1) := by decide +kernel
theorem d_Model_identities_42 : decode prog_11_method_50_code 42 = .ok (.getfield 25, 3) := by decide +kernel
theorem d_Model_identities_45 : decode prog_11_method_50_code 45 = .ok (.iload_n 1, 1) := by decide +kernel
theorem d_Model_identities_46 : decode prog_11_method_50_code 46 = .ok (.iaload, 1) := by decide +kernel
theorem d_Model_identities_47 : decode prog_11_method_50_code 47 = .ok (.iadd, 1) := by decide +kernel
theorem d_Model_identities_48 : decode prog_11_method_50_code 48 = .ok (.istore_n 3, 1) := by decide +kernel
theorem d_Model_identities_49 : decode prog_11_method_50_code 49 = .ok (.iload_n 2, 1) := by decide +kernel
theorem d_Model_identities_50 : decode prog_11_method_50_code 50 = .ok (.iload_n 3, 1) := by decide +kernel
theorem d_Model_identities_51 : decode prog_11_method_50_code 51 = .ok (.if_icmp .ge 187, 3) := by decide +kernel
theorem d_Model_identities_54 : decode prog_11_method_50_code 54 = .ok (.iload_n 2, 1) := by decide +kernel
theorem d_Model_identities_55 : decode prog_11_method_50_code 55 = .ok (.istore 4, 2) := by decide +kernel
theorem d_Model_identities_57 : decode prog_11_method_50_code 57 = .ok (.iload 4, 2) := by decide +kernel
theorem d_Model_identities_59 : decode prog_11_method_50_code 59 = .ok (.iload_n 3, 1) := by decide +kernel
theorem d_Model_identities_60 : decode prog_11_method_50_code 60 = .ok (.if_icmp .ge 21, 3) := by decide +kernel
theorem d_Model_identities_63 : decode prog_11_method_50_code 63 = .ok (.aload_n 0, 1) := by decide +kernel
theorem d_Model_identities_64 : decode prog_11_method_50_code 64 = .ok (.getfield 28, 3) := by decide +kernel
theorem d_Model_identities_67 : decode prog_11_method_50_code 67 = .ok (.iload 4, 2) := by decide +kernel
theorem d_Model_identities_69 : decode prog_11_method_50_code 69 = .ok (.iaload, 1) := by decide +kernel
theorem d_Model_identities_70 : decode prog_11_method_50_code 70 = .ok (.bipush 60, 2) := by decide +kernel
theorem d_Model_identities_72 : decode prog_11_method_50_code 72 = .ok (.if_icmp .eq 9, 3) := by decide +kernel
theorem d_Model_identities_75 : decode prog_11_method_50_code 75 = .ok (.iinc 4 1, 3) := by decide +kernel
theorem d_Model_identities_78 : decode prog_11_method_50_code 78 = .ok (.goto (-21), 3) := by decide +kernel
theorem d_Model_identities_81 : decode prog_11_method_50_code 81 = .ok (.iload 4, 2) := by decide +kernel
theorem d_Model_identities_83 : decode prog_11_method_50_code 83 = .ok (.istore 5, 2) := by decide +kernel
theorem d_Model_identities_85 : decode prog_11_method_50_code 85 = .ok (.iload 5, 2) := by decide +kernel
theorem d_Model_identities_87 : decode prog_11_method_50_code 87 = .ok (.iload_n 3, 1) := by decide +kernel
theorem d_Model_identities_88 : decode prog_11_method_50_code 88 = .ok (.if_icmp .ge 21, 3) := by decide +kernel
theorem d_Model_identities_91 : decode prog_11_method_50_code 91 = .ok (.aload_n 0, 1) := by decide +kernel
theorem d_Model_identities_92 : decode prog_11_method_50_code 92 = .ok (.getfield 28, 3) := by decide +kernel
theorem d_Model_identities_95 : decode prog_11_method_50_code 95 = .ok (.iload 5, 2) := by decide +kernel
theorem d_Model_identities_97 : decode prog_11_method_50_code 97 = .ok (.iaload, 1) := by decide +kernel
theorem d_Model_identities_98 : decode prog_11_method_50_code 98 = .ok (.bipush 62, 2) := by decide +kernel
theorem d_Model_identities_100 : decode prog_11_method_50_code 100 = .ok (.if_icmp .eq 9, 3) := by decide +kernel
theorem d_Model_identities_103 : decode prog_11_method_50_code 103 = .ok (.iinc 5 1, 3) := by decide +kernel
theorem d_Model_identities_106 : decode prog_11_method_50_code 106 = .ok (.goto (-21), 3) := by decide +kernel
theorem d_Model_identities_109 : decode prog_11_method_50_code 109 = .ok (.iconst 0, 1) := by decide +kernel
theorem d_Model_identities_110 : decode prog_11_method_50_code 110 = .ok (.istore 6, 2) := by decide +kernel
theorem d_Model_identities_112 : decode prog_11_method_50_code 112 = .ok (.iload 4, 2) := by decide +kernel
theorem d_Model_identities_114 : decode prog_11_method_50_code 114 = .ok (.iconst 1, 1) := by decide +kernel
theorem d_Model_identities_115 : decode prog_11_method_50_code 115 = .ok (.iadd, 1) := by decide +kernel
theorem d_Model_identities_116 : decode prog_11_method_50_code 116 = .ok (.istore 7, 2) := by decide +kernel
theorem d_Model_identities_118 : decode prog_11_method_50_code 118 = .ok (.iload 7, 2) := by decide +kernel
theorem d_Model_identities_120 : decode prog_11_method_50_code 120 = .ok (.iload 5, 2) := by decide +kernel
theorem d_Model_identities_122 : decode prog_11_method_50_code 122 = .ok (.if_icmp .ge 34, 3) := by decide +kernel
theorem d_Model_identities_125 : decode prog_11_method_50_code 125 = .ok (.iload 6, 2) := by decide +kernel
theorem d_Model_identities_127 : decode prog_11_method_50_code 127 = .ok (.ifCond .ne 16, 3) := by decide +kernel
theorem d_Model_identities_130 : decode prog_11_method_50_code 130 = .ok (.aload_n 0, 1) := by decide +kernel
theorem d_Model_identities_131 : decode prog_11_method_50_code 131 = .ok (.getfield 28, 3) := by decide +kernel
theorem d_Model_identities_134 : decode prog_11_method_50_code 134 = .ok (.iload 7, 2) := by decide +kernel
theorem d_Model_identities_136 : decode prog_11_method_50_code 136 = .ok (.iaload, 1) := by decide +kernel
theorem d_Model_identities_137 : decode prog_11_method_50_code 137 = .ok (.invokestatic 109, 3) := by decide +kernel
theorem d_Model_identities_140 : decode prog_11_method_50_code 140 = .ok (.ifCond .eq 7, 3) := by decide +kernel
theorem d_Model_identities_143 : decode prog_11_method_50_code 143 = .ok (.iconst 1, 1) := by decide +kernel
theorem d_Model_identities_144 : decode prog_11_method_50_code 144 = .ok (.goto 4, 3) := by decide +kernel
theorem d_Model_identities_147 : decode prog_11_method_50_code 147 = .ok (.iconst 0, 1) := by decide +kernel
theorem d_Model_identities_148 : decode prog_11_method_50_code 148 = .ok (.istore 6, 2) := by decide +kernel
theorem d_Model_identities_150 : decode prog_11_method_50_code 150 = .ok (.iinc 7 1, 3) := by decide +kernel
theorem d_Model_identities_153 : decode prog_11_method_50_code 153 = .ok (.goto (-35), 3) := by decide +kernel
theorem d_Model_identities_156 : decode prog_11_method_50_code 156 = .ok (.iload 5, 2) := by decide +kernel
theorem d_Model_identities_158 : decode prog_11_method_50_code 158 = .ok (.iload 4, 2) := by decide +kernel
theorem d_Model_identities_160 : decode prog_11_method_50_code 160 = .ok (.isub, 1) := by decide +kernel
theorem d_Model_identities_161 : decode prog_11_method_50_code 161 = .ok (.iconst 1, 1) := by decide +kernel
theorem d_Model_identities_162 : decode prog_11_method_50_code 162 = .ok (.isub, 1) := by decide +kernel
theorem d_Model_identities_163 : decode prog_11_method_50_code 163 = .ok (.istore 7, 2) := by decide +kernel
theorem d_Model_identities_165 : decode prog_11_method_50_code 165 = .ok (.iload 5, 2) := by decide +kernel
theorem d_Model_identities_167 : decode prog_11_method_50_code 167 = .ok (.iload_n 3, 1) := by decide +kernel
theorem d_Model_identities_168 : decode prog_11_method_50_code 168 = .ok (.if_icmp .ge 62, 3) := by decide +kernel
theorem d_Model_identities_171 : decode prog_11_method_50_code 171 = .ok (.iload 6, 2) := by decide +kernel
theorem d_Model_identities_173 : decode prog_11_method_50_code 173 = .ok (.ifCond .ne 57, 3) := by decide +kernel
theorem d_Model_identities_176 : decode prog_11_method_50_code 176 = .ok (.iload 7, 2) := by decide +kernel
theorem d_Model_identities_178 : decode prog_11_method_50_code 178 = .ok (.iconst 1, 1) := by decide +kernel
theorem d_Model_identities_179 : decode prog_11_method_50_code 179 = .ok (.if_icmp .lt 51, 3) := by decide +kernel
theorem d_Model_identities_182 : decode prog_11_method_50_code 182 = .ok (.iload 7, 2) := by decide +kernel
theorem d_Model_identities_184 : decode prog_11_method_50_code 184 = .ok (.bipush 100, 2) := by decide +kernel
theorem d_Model_identities_186 : decode prog_11_method_50_code 186 = .ok (.if_icmp .gt 44, 3) := by decide +kernel
theorem d_Model_identities_189 : decode prog_11_method_50_code 189 = .ok (.aload_n 0, 1) := by decide +kernel
theorem d_Model_identities_190 : decode prog_11_method_50_code 190 = .ok (.iconst 4, 1) := by decide +kernel
theorem d_Model_identities_191 : decode prog_11_method_50_code 191 = .ok (.invokevirtual 204, 3) := by decide +kernel
theorem d_Model_identities_194 : decode prog_11_method_50_code 194 = .ok (.iload 4, 2) := by decide +kernel
theorem d_Model_identities_196 : decode prog_11_method_50_code 196 = .ok (.iconst 1, 1) := by decide +kernel
theorem d_Model_identities_197 : decode prog_11_method_50_code 197 = .ok (.iadd, 1) := by decide +kernel
theorem d_Model_identities_198 : decode prog_11_method_50_code 198 = .ok (.istore 8, 2) := by decide +kernel
theorem d_Model_identities_200 : decode prog_11_method_50_code 200 = .ok (.iload 8, 2) := by decide +kernel
theorem d_Model_identities_202 : decode prog_11_method_50_code 202 = .ok (.iload 5, 2) := by decide +kernel
theorem d_Model_identities_204 : decode prog_11_method_50_code 204 = .ok (.if_icmp .ge 21, 3) := by decide +kernel
theorem d_Model_identities_207 : decode prog_11_method_50_code 207 = .ok (.aload_n 0, 1) := by decide +kernel
theorem d_Model_identities_208 : decode prog_11_method_50_code 208 = .ok (.iconst 4, 1) := by decide +kernel
theorem d_Model_identities_209 : decode prog_11_method_50_code 209 = .ok (.aload_n 0, 1) := by decide +kernel
theorem d_Model_identities_210 : decode prog_11_method_50_code 210 = .ok (.getfield 28, 3) := by decide +kernel
theorem d_Model_identities_213 : decode prog_11_method_50_code 213 = .ok (.iload 8, 2) := by decide +kernel
theorem d_Model_identities_215 : decode prog_11_method_50_code 215 = .ok (.iaload, 1) := by decide +kernel
theorem d_Model_identities_216 : decode prog_11_method_50_code 216 = .ok (.invokevirtual 191, 3) := by decide +kernel
theorem d_Model_identities_219 : decode prog_11_method_50_code 219 = .ok (.iinc 8 1, 3) := by decide +kernel
theorem d_Model_identities_222 : decode prog_11_method_50_code 222 = .ok (.goto (-22), 3) := by decide +kernel
theorem d_Model_identities_225 : decode prog_11_method_50_code 225 = .ok (.aload_n 0, 1) := by decide +kernel
theorem d_Model_identities_226 : decode prog_11_method_50_code 226 = .ok (.iconst 4, 1) := by decide +kernel
theorem d_Model_identities_227 : decode prog_11_method_50_code 227 = .ok (.invokevirtual 210, 3) := by decide +kernel
theorem d_Model_identities_230 : decode prog_11_method_50_code 230 = .ok (.iload 5, 2) := by decide +kernel
theorem d_Model_identities_232 : decode prog_11_method_50_code 232 = .ok (.iconst 1, 1) := by decide +kernel
theorem d_Model_identities_233 : decode prog_11_method_50_code 233 = .ok (.iadd, 1) := by decide +kernel
theorem d_Model_identities_234 : decode prog_11_method_50_code 234 = .ok (.istore_n 2, 1) := by decide +kernel
theorem d_Model_identities_235 : decode prog_11_method_50_code 235 = .ok (.goto (-186), 3) := by decide +kernel
theorem d_Model_identities_238 : decode prog_11_method_50_code 238 = .ok (.aload_n 0, 1) := by decide +kernel
theorem d_Model_identities_239 : decode prog_11_method_50_code 239 = .ok (.getfield 52, 3) := by decide +kernel
theorem d_Model_identities_242 : decode prog_11_method_50_code 242 = .ok (.iconst 4, 1) := by decide +kernel
theorem d_Model_identities_243 : decode prog_11_method_50_code 243 = .ok (.iaload, 1) := by decide +kernel
theorem d_Model_identities_244 : decode prog_11_method_50_code 244 = .ok (.ireturn, 1) := by decide +kernel
theorem d_Model_at_0 : decode prog_11_method_37_code 0 = .ok (.aload_n 0, 1) := by decide +kernel
theorem d_Model_at_1 : decode prog_11_method_37_code 1 = .ok (.iload_n 1, 1) := by decide +kernel
theorem d_Model_at_2 : decode prog_11_method_37_code 2 = .ok (.iload_n 2, 1) := by decide +kernel
theorem d_Model_at_3 : decode prog_11_method_37_code 3 = .ok (.invokevirtual 194, 3) := by decide +kernel
theorem d_Model_at_6 : decode prog_11_method_37_code 6 = .ok (.istore 4, 2) := by decide +kernel
theorem d_Model_at_8 : decode prog_11_method_37_code 8 = .ok (.iload_n 3, 1) := by decide +kernel
theorem d_Model_at_9 : decode prog_11_method_37_code 9 = .ok (.ifCond .lt 9, 3) := by decide +kernel
theorem d_Model_at_12 : decode prog_11_method_37_code 12 = .ok (.iload_n 3, 1) := by decide +kernel
theorem d_Model_at_13 : decode prog_11_method_37_code 13 = .ok (.iload 4, 2) := by decide +kernel
theorem d_Model_at_15 : decode prog_11_method_37_code 15 = .ok (.if_icmp .lt 7, 3) := by decide +kernel
theorem d_Model_at_18 : decode prog_11_method_37_code 18 = .ok (.iconst (-1), 1) := by decide +kernel
theorem d_Model_at_19 : decode prog_11_method_37_code 19 = .ok (.goto 22, 3) := by decide +kernel
theorem d_Model_at_22 : decode prog_11_method_37_code 22 = .ok (.aload_n 0, 1) := by decide +kernel
theorem d_Model_at_23 : decode prog_11_method_37_code 23 = .ok (.getfield 46, 3) := by decide +kernel
theorem d_Model_at_26 : decode prog_11_method_37_code 26 = .ok (.aload_n 0, 1) := by decide +kernel
theorem d_Model_at_27 : decode prog_11_method_37_code 27 = .ok (.getfield 55, 3) := by decide +kernel
theorem d_Model_at_30 : decode prog_11_method_37_code 30 = .ok (.sipush 1000, 3) := by decide +kernel
theorem d_Model_at_33 : decode prog_11_method_37_code 33 = .ok (.iload_n 1, 1) := by decide +kernel
theorem d_Model_at_34 : decode prog_11_method_37_code 34 = .ok (.imul, 1) := by decide +kernel
theorem d_Model_at_35 : decode prog_11_method_37_code 35 = .ok (.iload_n 2, 1) := by decide +kernel
theorem d_Model_at_36 : decode prog_11_method_37_code 36 = .ok (.iadd, 1) := by decide +kernel
theorem d_Model_at_37 : decode prog_11_method_37_code 37 = .ok (.iaload, 1) := by decide +kernel
theorem d_Model_at_38 : decode prog_11_method_37_code 38 = .ok (.iload_n 3, 1) := by decide +kernel
theorem d_Model_at_39 : decode prog_11_method_37_code 39 = .ok (.iadd, 1) := by decide +kernel
theorem d_Model_at_40 : decode prog_11_method_37_code 40 = .ok (.iaload, 1) := by decide +kernel
theorem d_Model_at_41 : decode prog_11_method_37_code 41 = .ok (.ireturn, 1) := by decide +kernel
theorem d_Model_parameterByte_0 : decode prog_11_method_74_code 0 = .ok (.aload_n 0, 1) := by decide +kernel
theorem d_Model_parameterByte_1 : decode prog_11_method_74_code 1 = .ok (.iconst 0, 1) := by decide +kernel
theorem d_Model_parameterByte_2 : decode prog_11_method_74_code 2 = .ok (.putfield 99, 3) := by decide +kernel
theorem d_Model_parameterByte_5 : decode prog_11_method_74_code 5 = .ok (.iload_n 1, 1) := by decide +kernel
theorem d_Model_parameterByte_6 : decode prog_11_method_74_code 6 = .ok (.ifCond .eq 10, 3) := by decide +kernel
theorem d_Model_parameterByte_9 : decode prog_11_method_74_code 9 = .ok (.aload_n 0, 1) := by decide +kernel
theorem d_Model_parameterByte_10 : decode prog_11_method_74_code 10 = .ok (.getfield 96, 3) := by decide +kernel
theorem d_Model_parameterByte_13 : decode prog_11_method_74_code 13 = .ok (.goto 7, 3) := by decide +kernel
theorem d_Model_parameterByte_16 : decode prog_11_method_74_code 16 = .ok (.aload_n 0, 1) := by decide +kernel
theorem d_Model_parameterByte_17 : decode prog_11_method_74_code 17 = .ok (.getfield 92, 3) := by decide +kernel
theorem d_Model_parameterByte_20 : decode prog_11_method_74_code 20 = .ok (.istore_n 3, 1) := by decide +kernel
theorem d_Model_parameterByte_21 : decode prog_11_method_74_code 21 = .ok (.iload_n 2, 1) := by decide +kernel
theorem d_Model_parameterByte_22 : decode prog_11_method_74_code 22 = .ok (.ifCond .lt 8, 3) := by decide +kernel
theorem d_Model_parameterByte_25 : decode prog_11_method_74_code 25 = .ok (.iload_n 2, 1) := by decide +kernel
theorem d_Model_parameterByte_26 : decode prog_11_method_74_code 26 = .ok (.iload_n 3, 1) := by decide +kernel
theorem d_Model_parameterByte_27 : decode prog_11_method_74_code 27 = .ok (.if_icmp .lt 7, 3) := by decide +kernel
theorem d_Model_parameterByte_30 : decode prog_11_method_74_code 30 = .ok (.iconst (-1), 1) := by decide +kernel
theorem d_Model_parameterByte_31 : decode prog_11_method_74_code 31 = .ok (.goto 22, 3) := by decide +kernel
theorem d_Model_parameterByte_34 : decode prog_11_method_74_code 34 = .ok (.iload_n 1, 1) := by decide +kernel
theorem d_Model_parameterByte_35 : decode prog_11_method_74_code 35 = .ok (.ifCond .eq 12, 3) := by decide +kernel
theorem d_Model_parameterByte_38 : decode prog_11_method_74_code 38 = .ok (.aload_n 0, 1) := by decide +kernel
theorem d_Model_parameterByte_39 : decode prog_11_method_74_code 39 = .ok (.getfield 89, 3) := by decide +kernel
theorem d_Model_parameterByte_42 : decode prog_11_method_74_code 42 = .ok (.iload_n 2, 1) := by decide +kernel
theorem d_Model_parameterByte_43 : decode prog_11_method_74_code 43 = .ok (.iaload, 1) := by decide +kernel
theorem d_Model_parameterByte_44 : decode prog_11_method_74_code 44 = .ok (.goto 9, 3) := by decide +kernel
theorem d_Model_parameterByte_47 : decode prog_11_method_74_code 47 = .ok (.aload_n 0, 1) := by decide +kernel
theorem d_Model_parameterByte_48 : decode prog_11_method_74_code 48 = .ok (.getfield 86, 3) := by decide +kernel
theorem d_Model_parameterByte_51 : decode prog_11_method_74_code 51 = .ok (.iload_n 2, 1) := by decide +kernel
theorem d_Model_parameterByte_52 : decode prog_11_method_74_code 52 = .ok (.iaload, 1) := by decide +kernel
theorem d_Model_parameterByte_53 : decode prog_11_method_74_code 53 = .ok (.ireturn, 1) := by decide +kernel
theorem d_Model_takeParameter_0 : decode prog_11_method_67_code 0 = .ok (.aload_n 0, 1) := by decide +kernel
theorem d_Model_takeParameter_1 : decode prog_11_method_67_code 1 = .ok (.iload_n 1, 1) := by decide +kernel
theorem d_Model_takeParameter_2 : decode prog_11_method_67_code 2 = .ok (.aload_n 0, 1) := by decide +kernel
theorem d_Model_takeParameter_3 : decode prog_11_method_67_code 3 = .ok (.getfield 149, 3) := by decide +kernel
theorem d_Model_takeParameter_6 : decode prog_11_method_67_code 6 = .ok (.invokevirtual 197, 3) := by decide +kernel
theorem d_Model_takeParameter_9 : decode prog_11_method_67_code 9 = .ok (.istore_n 2, 1) := by decide +kernel
theorem d_Model_takeParameter_10 : decode prog_11_method_67_code 10 = .ok (.aload_n 0, 1) := by decide +kernel
theorem d_Model_takeParameter_11 : decode prog_11_method_67_code 11 = .ok (.iload_n 2, 1) := by decide +kernel
theorem d_Model_takeParameter_12 : decode prog_11_method_67_code 12 = .ok (.iconst 1, 1) := by decide +kernel
theorem d_Model_takeParameter_13 : decode prog_11_method_67_code 13 = .ok (.iadd, 1) := by decide +kernel
theorem d_Model_takeParameter_14 : decode prog_11_method_67_code 14 = .ok (.aload_n 0, 1) := by decide +kernel
theorem d_Model_takeParameter_15 : decode prog_11_method_67_code 15 = .ok (.getfield 149, 3) := by decide +kernel
theorem d_Model_takeParameter_18 : decode prog_11_method_67_code 18 = .ok (.invokevirtual 197, 3) := by decide +kernel
theorem d_Model_takeParameter_21 : decode prog_11_method_67_code 21 = .ok (.istore_n 3, 1) := by decide +kernel
theorem d_Model_takeParameter_22 : decode prog_11_method_67_code 22 = .ok (.aload_n 0, 1) := by decide +kernel
theorem d_Model_takeParameter_23 : decode prog_11_method_67_code 23 = .ok (.iload_n 3, 1) := by decide +kernel
theorem d_Model_takeParameter_24 : decode prog_11_method_67_code 24 = .ok (.iconst 1, 1) := by decide +kernel
theorem d_Model_takeParameter_25 : decode prog_11_method_67_code 25 = .ok (.iadd, 1) := by decide +kernel
theorem d_Model_takeParameter_26 : decode prog_11_method_67_code 26 = .ok (.aload_n 0, 1) := by decide +kernel
theorem d_Model_takeParameter_27 : decode prog_11_method_67_code 27 = .ok (.getfield 149, 3) := by decide +kernel
theorem d_Model_takeParameter_30 : decode prog_11_method_67_code 30 = .ok (.invokevirtual 197, 3) := by decide +kernel
theorem d_Model_takeParameter_33 : decode prog_11_method_67_code 33 = .ok (.istore 4, 2) := by decide +kernel
theorem d_Model_takeParameter_35 : decode prog_11_method_67_code 35 = .ok (.iload 4, 2) := by decide +kernel
theorem d_Model_takeParameter_37 : decode prog_11_method_67_code 37 = .ok (.aload_n 0, 1) := by decide +kernel
theorem d_Model_takeParameter_38 : decode prog_11_method_67_code 38 = .ok (.getfield 149, 3) := by decide +kernel
theorem d_Model_takeParameter_41 : decode prog_11_method_67_code 41 = .ok (.if_icmp .ge 45, 3) := by decide +kernel
theorem d_Model_takeParameter_44 : decode prog_11_method_67_code 44 = .ok (.aload_n 0, 1) := by decide +kernel
theorem d_Model_takeParameter_45 : decode prog_11_method_67_code 45 = .ok (.getfield 31, 3) := by decide +kernel
theorem d_Model_takeParameter_48 : decode prog_11_method_67_code 48 = .ok (.iload_n 2, 1) := by decide +kernel
theorem d_Model_takeParameter_49 : decode prog_11_method_67_code 49 = .ok (.iaload, 1) := by decide +kernel
theorem d_Model_takeParameter_50 : decode prog_11_method_67_code 50 = .ok (.iconst 4, 1) := by decide +kernel
theorem d_Model_takeParameter_51 : decode prog_11_method_67_code 51 = .ok (.if_icmp .ne 35, 3) := by decide +kernel
theorem d_Model_takeParameter_54 : decode prog_11_method_67_code 54 = .ok (.aload_n 0, 1) := by decide +kernel
theorem d_Model_takeParameter_55 : decode prog_11_method_67_code 55 = .ok (.iload_n 3, 1) := by decide +kernel
theorem d_Model_takeParameter_56 : decode prog_11_method_67_code 56 = .ok (.bipush 61, 2) := by decide +kernel
theorem d_Model_takeParameter_58 : decode prog_11_method_67_code 58 = .ok (.invokevirtual 200, 3) := by decide +kernel
theorem d_Model_takeParameter_61 : decode prog_11_method_67_code 61 = .ok (.ifCond .eq 25, 3) := by decide +kernel
theorem d_Model_takeParameter_64 : decode prog_11_method_67_code 64 = .ok (.aload_n 0, 1) := by decide +kernel
theorem d_Model_takeParameter_65 : decode prog_11_method_67_code 65 = .ok (.getfield 31, 3) := by decide +kernel
theorem d_Model_takeParameter_68 : decode prog_11_method_67_code 68 = .ok (.iload 4, 2) := by decide +kernel
theorem d_Model_takeParameter_70 : decode prog_11_method_67_code 70 = .ok (.iaload, 1) := by decide +kernel
theorem d_Model_takeParameter_71 : decode prog_11_method_67_code 71 = .ok (.iconst 4, 1) := by decide +kernel
theorem d_Model_takeParameter_72 : decode prog_11_method_67_code 72 = .ok (.if_icmp .eq 15, 3) := by decide +kernel
theorem d_Model_takeParameter_75 : decode prog_11_method_67_code 75 = .ok (.aload_n 0, 1) := by decide +kernel
theorem d_Model_takeParameter_76 : decode prog_11_method_67_code 76 = .ok (.getfield 31, 3) := by decide +kernel
theorem d_Model_takeParameter_79 : decode prog_11_method_67_code 79 = .ok (.iload 4, 2) := by decide +kernel
theorem d_Model_takeParameter_81 : decode prog_11_method_67_code 81 = .ok (.iaload, 1) := by decide +kernel
theorem d_Model_takeParameter_82 : decode prog_11_method_67_code 82 = .ok (.iconst 1, 1) := by decide +kernel
theorem d_Model_takeParameter_83 : decode prog_11_method_67_code 83 = .ok (.if_icmp .eq 4, 3) := by decide +kernel
theorem d_Model_takeParameter_86 : decode prog_11_method_67_code 86 = .ok (.return_, 1) := by decide +kernel
theorem d_Model_takeParameter_87 : decode prog_11_method_67_code 87 = .ok (.aload_n 0, 1) := by decide +kernel
theorem d_Model_takeParameter_88 : decode prog_11_method_67_code 88 = .ok (.getfield 40, 3) := by decide +kernel
theorem d_Model_takeParameter_91 : decode prog_11_method_67_code 91 = .ok (.iload_n 2, 1) := by decide +kernel
theorem d_Model_takeParameter_92 : decode prog_11_method_67_code 92 = .ok (.iaload, 1) := by decide +kernel
theorem d_Model_takeParameter_93 : decode prog_11_method_67_code 93 = .ok (.istore 5, 2) := by decide +kernel
theorem d_Model_takeParameter_95 : decode prog_11_method_67_code 95 = .ok (.iload 5, 2) := by decide +kernel
theorem d_Model_takeParameter_97 : decode prog_11_method_67_code 97 = .ok (.aload_n 0, 1) := by decide +kernel
theorem d_Model_takeParameter_98 : decode prog_11_method_67_code 98 = .ok (.getfield 37, 3) := by decide +kernel
theorem d_Model_takeParameter_101 : decode prog_11_method_67_code 101 = .ok (.iload_n 2, 1) := by decide +kernel
theorem d_Model_takeParameter_102 : decode prog_11_method_67_code 102 = .ok (.iaload, 1) := by decide +kernel
theorem d_Model_takeParameter_103 : decode prog_11_method_67_code 103 = .ok (.if_icmp .le 21, 3) := by decide +kernel
theorem d_Model_takeParameter_106 : decode prog_11_method_67_code 106 = .ok (.aload_n 0, 1) := by decide +kernel
theorem d_Model_takeParameter_107 : decode prog_11_method_67_code 107 = .ok (.getfield 43, 3) := by decide +kernel
theorem d_Model_takeParameter_110 : decode prog_11_method_67_code 110 = .ok (.iload 5, 2) := by decide +kernel
theorem d_Model_takeParameter_112 : decode prog_11_method_67_code 112 = .ok (.iconst 1, 1) := by decide +kernel
theorem d_Model_takeParameter_113 : decode prog_11_method_67_code 113 = .ok (.isub, 1) := by decide +kernel
theorem d_Model_takeParameter_114 : decode prog_11_method_67_code 114 = .ok (.iaload, 1) := by decide +kernel
theorem d_Model_takeParameter_115 : decode prog_11_method_67_code 115 = .ok (.bipush 42, 2) := by decide +kernel
theorem d_Model_takeParameter_117 : decode prog_11_method_67_code 117 = .ok (.if_icmp .ne 7, 3) := by decide +kernel
theorem d_Model_takeParameter_120 : decode prog_11_method_67_code 120 = .ok (.iconst 1, 1) := by decide +kernel
theorem d_Model_takeParameter_121 : decode prog_11_method_67_code 121 = .ok (.goto 4, 3) := by decide +kernel
theorem d_Model_takeParameter_124 : decode prog_11_method_67_code 124 = .ok (.iconst 0, 1) := by decide +kernel
theorem d_Model_takeParameter_125 : decode prog_11_method_67_code 125 = .ok (.istore 6, 2) := by decide +kernel
theorem d_Model_takeParameter_127 : decode prog_11_method_67_code 127 = .ok (.iload 6, 2) := by decide +kernel
theorem d_Model_takeParameter_129 : decode prog_11_method_67_code 129 = .ok (.ifCond .eq 6, 3) := by decide +kernel
theorem d_Model_takeParameter_132 : decode prog_11_method_67_code 132 = .ok (.iinc 5 (-1), 3) := by decide +kernel
theorem d_Model_takeParameter_135 : decode prog_11_method_67_code 135 = .ok (.iconst (-1), 1) := by decide +kernel
theorem d_Model_takeParameter_136 : decode prog_11_method_67_code 136 = .ok (.istore 7, 2) := by decide +kernel
theorem d_Model_takeParameter_138 : decode prog_11_method_67_code 138 = .ok (.iload 5, 2) := by decide +kernel
theorem d_Model_takeParameter_140 : decode prog_11_method_67_code 140 = .ok (.aload_n 0, 1) := by decide +kernel
theorem d_Model_takeParameter_141 : decode prog_11_method_67_code 141 = .ok (.getfield 37, 3) := by decide +kernel
theorem d_Model_takeParameter_144 : decode prog_11_method_67_code 144 = .ok (.iload_n 2, 1) := by decide +kernel
theorem d_Model_takeParameter_145 : decode prog_11_method_67_code 145 = .ok (.iaload, 1) := by decide +kernel
theorem d_Model_takeParameter_146 : decode prog_11_method_67_code 146 = .ok (.isub, 1) := by decide +kernel
theorem d_Model_takeParameter_147 : decode prog_11_method_67_code 147 = .ok (.iconst 2, 1) := by decide +kernel
theorem d_Model_takeParameter_148 : decode prog_11_method_67_code 148 = .ok (.if_icmp .lt 49, 3) := by decide +kernel
theorem d_Model_takeParameter_151 : decode prog_11_method_67_code 151 = .ok (.aload_n 0, 1) := by decide +kernel
theorem d_Model_takeParameter_152 : decode prog_11_method_67_code 152 = .ok (.getfield 43, 3) := by decide +kernel
theorem d_Model_takeParameter_155 : decode prog_11_method_67_code 155 = .ok (.iload 5, 2) := by decide +kernel
theorem d_Model_takeParameter_157 : decode prog_11_method_67_code 157 = .ok (.iconst 1, 1) := by decide +kernel
theorem d_Model_takeParameter_158 : decode prog_11_method_67_code 158 = .ok (.isub, 1) := by decide +kernel
theorem d_Model_takeParameter_159 : decode prog_11_method_67_code 159 = .ok (.iaload, 1) := by decide +kernel
theorem d_Model_takeParameter_160 : decode prog_11_method_67_code 160 = .ok (.invokestatic 271, 3) := by decide +kernel
theorem d_Model_takeParameter_163 : decode prog_11_method_67_code 163 = .ok (.ifCond .eq 34, 3) := by decide +kernel
theorem d_Model_takeParameter_166 : decode prog_11_method_67_code 166 = .ok (.aload_n 0, 1) := by decide +kernel
theorem d_Model_takeParameter_167 : decode prog_11_method_67_code 167 = .ok (.getfield 43, 3) := by decide +kernel
theorem d_Model_takeParameter_170 : decode prog_11_method_67_code 170 = .ok (.iload 5, 2) := by decide +kernel
theorem d_Model_takeParameter_172 : decode prog_11_method_67_code 172 = .ok (.iconst 2, 1) := by decide +kernel
theorem d_Model_takeParameter_173 : decode prog_11_method_67_code 173 = .ok (.isub, 1) := by decide +kernel
theorem d_Model_takeParameter_174 : decode prog_11_method_67_code 174 = .ok (.iaload, 1) := by decide +kernel
theorem d_Model_takeParameter_175 : decode prog_11_method_67_code 175 = .ok (.bipush 42, 2) := by decide +kernel
theorem d_Model_takeParameter_177 : decode prog_11_method_67_code 177 = .ok (.if_icmp .ne 20, 3) := by decide +kernel
theorem d_Model_takeParameter_180 : decode prog_11_method_67_code 180 = .ok (.aload_n 0, 1) := by decide +kernel
theorem d_Model_takeParameter_181 : decode prog_11_method_67_code 181 = .ok (.getfield 43, 3) := by decide +kernel
theorem d_Model_takeParameter_184 : decode prog_11_method_67_code 184 = .ok (.iload 5, 2) := by decide +kernel
theorem d_Model_takeParameter_186 : decode prog_11_method_67_code 186 = .ok (.iconst 1, 1) := by decide +kernel
theorem d_Model_takeParameter_187 : decode prog_11_method_67_code 187 = .ok (.isub, 1) := by decide +kernel
theorem d_Model_takeParameter_188 : decode prog_11_method_67_code 188 = .ok (.iaload, 1) := by decide +kernel
theorem d_Model_takeParameter_189 : decode prog_11_method_67_code 189 = .ok (.bipush 48, 2) := by decide +kernel
theorem d_Model_takeParameter_191 : decode prog_11_method_67_code 191 = .ok (.isub, 1) := by decide +kernel
theorem d_Model_takeParameter_192 : decode prog_11_method_67_code 192 = .ok (.istore 7, 2) := by decide +kernel
theorem d_Model_takeParameter_194 : decode prog_11_method_67_code 194 = .ok (.iinc 5 (-2), 3) := by decide +kernel
theorem d_Model_takeParameter_197 : decode prog_11_method_67_code 197 = .ok (.iload 5, 2) := by decide +kernel
theorem d_Model_takeParameter_199 : decode prog_11_method_67_code 199 = .ok (.aload_n 0, 1) := by decide +kernel
theorem d_Model_takeParameter_200 : decode prog_11_method_67_code 200 = .ok (.getfield 37, 3) := by decide +kernel
theorem d_Model_takeParameter_203 : decode prog_11_method_67_code 203 = .ok (.iload_n 2, 1) := by decide +kernel
theorem d_Model_takeParameter_204 : decode prog_11_method_67_code 204 = .ok (.iaload, 1) := by decide +kernel
theorem d_Model_takeParameter_205 : decode prog_11_method_67_code 205 = .ok (.if_icmp .ne 4, 3) := by decide +kernel
theorem d_Model_takeParameter_208 : decode prog_11_method_67_code 208 = .ok (.return_, 1) := by decide +kernel
theorem d_Model_takeParameter_209 : decode prog_11_method_67_code 209 = .ok (.aload_n 0, 1) := by decide +kernel
theorem d_Model_takeParameter_210 : decode prog_11_method_67_code 210 = .ok (.getfield 64, 3) := by decide +kernel
theorem d_Model_takeParameter_213 : decode prog_11_method_67_code 213 = .ok (.aload_n 0, 1) := by decide +kernel
theorem d_Model_takeParameter_214 : decode prog_11_method_67_code 214 = .ok (.getfield 347, 3) := by decide +kernel
theorem d_Model_takeParameter_217 : decode prog_11_method_67_code 217 = .ok (.aload_n 0, 1) := by decide +kernel
theorem d_Model_takeParameter_218 : decode prog_11_method_67_code 218 = .ok (.getfield 37, 3) := by decide +kernel
theorem d_Model_takeParameter_221 : decode prog_11_method_67_code 221 = .ok (.iload_n 2, 1) := by decide +kernel
theorem d_Model_takeParameter_222 : decode prog_11_method_67_code 222 = .ok (.iaload, 1) := by decide +kernel
theorem d_Model_takeParameter_223 : decode prog_11_method_67_code 223 = .ok (.iastore, 1) := by decide +kernel
theorem d_Model_takeParameter_224 : decode prog_11_method_67_code 224 = .ok (.aload_n 0, 1) := by decide +kernel
theorem d_Model_takeParameter_225 : decode prog_11_method_67_code 225 = .ok (.getfield 67, 3) := by decide +kernel
theorem d_Model_takeParameter_228 : decode prog_11_method_67_code 228 = .ok (.aload_n 0, 1) := by decide +kernel
theorem d_Model_takeParameter_229 : decode prog_11_method_67_code 229 = .ok (.getfield 347, 3) := by decide +kernel
theorem d_Model_takeParameter_232 : decode prog_11_method_67_code 232 = .ok (.iload 5, 2) := by decide +kernel
theorem d_Model_takeParameter_234 : decode prog_11_method_67_code 234 = .ok (.iastore, 1) := by decide +kernel
theorem d_Model_takeParameter_235 : decode prog_11_method_67_code 235 = .ok (.aload_n 0, 1) := by decide +kernel
theorem d_Model_takeParameter_236 : decode prog_11_method_67_code 236 = .ok (.getfield 70, 3) := by decide +kernel
theorem d_Model_takeParameter_239 : decode prog_11_method_67_code 239 = .ok (.aload_n 0, 1) := by decide +kernel
theorem d_Model_takeParameter_240 : decode prog_11_method_67_code 240 = .ok (.getfield 347, 3) := by decide +kernel
theorem d_Model_takeParameter_243 : decode prog_11_method_67_code 243 = .ok (.iload 7, 2) := by decide +kernel
theorem d_Model_takeParameter_245 : decode prog_11_method_67_code 245 = .ok (.iastore, 1) := by decide +kernel
theorem d_Model_takeParameter_246 : decode prog_11_method_67_code 246 = .ok (.aload_n 0, 1) := by decide +kernel
theorem d_Model_takeParameter_247 : decode prog_11_method_67_code 247 = .ok (.getfield 73, 3) := by decide +kernel
theorem d_Model_takeParameter_250 : decode prog_11_method_67_code 250 = .ok (.aload_n 0, 1) := by decide +kernel
theorem d_Model_takeParameter_251 : decode prog_11_method_67_code 251 = .ok (.getfield 347, 3) := by decide +kernel
theorem d_Model_takeParameter_254 : decode prog_11_method_67_code 254 = .ok (.iload 6, 2) := by decide +kernel
theorem d_Model_takeParameter_256 : decode prog_11_method_67_code 256 = .ok (.bastore, 1) := by decide +kernel
theorem d_Model_takeParameter_257 : decode prog_11_method_67_code 257 = .ok (.aload_n 0, 1) := by decide +kernel
theorem d_Model_takeParameter_258 : decode prog_11_method_67_code 258 = .ok (.getfield 77, 3) := by decide +kernel
theorem d_Model_takeParameter_261 : decode prog_11_method_67_code 261 = .ok (.aload_n 0, 1) := by decide +kernel
theorem d_Model_takeParameter_262 : decode prog_11_method_67_code 262 = .ok (.getfield 347, 3) := by decide +kernel
theorem d_Model_takeParameter_265 : decode prog_11_method_67_code 265 = .ok (.aload_n 0, 1) := by decide +kernel
theorem d_Model_takeParameter_266 : decode prog_11_method_67_code 266 = .ok (.getfield 37, 3) := by decide +kernel
theorem d_Model_takeParameter_269 : decode prog_11_method_67_code 269 = .ok (.iload 4, 2) := by decide +kernel
theorem d_Model_takeParameter_271 : decode prog_11_method_67_code 271 = .ok (.iaload, 1) := by decide +kernel
theorem d_Model_takeParameter_272 : decode prog_11_method_67_code 272 = .ok (.iastore, 1) := by decide +kernel
theorem d_Model_takeParameter_273 : decode prog_11_method_67_code 273 = .ok (.aload_n 0, 1) := by decide +kernel
theorem d_Model_takeParameter_274 : decode prog_11_method_67_code 274 = .ok (.getfield 80, 3) := by decide +kernel
theorem d_Model_takeParameter_277 : decode prog_11_method_67_code 277 = .ok (.aload_n 0, 1) := by decide +kernel
theorem d_Model_takeParameter_278 : decode prog_11_method_67_code 278 = .ok (.getfield 347, 3) := by decide +kernel
theorem d_Model_takeParameter_281 : decode prog_11_method_67_code 281 = .ok (.aload_n 0, 1) := by decide +kernel
theorem d_Model_takeParameter_282 : decode prog_11_method_67_code 282 = .ok (.getfield 40, 3) := by decide +kernel
theorem d_Model_takeParameter_285 : decode prog_11_method_67_code 285 = .ok (.iload 4, 2) := by decide +kernel
theorem d_Model_takeParameter_287 : decode prog_11_method_67_code 287 = .ok (.iaload, 1) := by decide +kernel
theorem d_Model_takeParameter_288 : decode prog_11_method_67_code 288 = .ok (.iastore, 1) := by decide +kernel
theorem d_Model_takeParameter_289 : decode prog_11_method_67_code 289 = .ok (.aload_n 0, 1) := by decide +kernel
theorem d_Model_takeParameter_290 : decode prog_11_method_67_code 290 = .ok (.dup, 1) := by decide +kernel
theorem d_Model_takeParameter_291 : decode prog_11_method_67_code 291 = .ok (.getfield 347, 3) := by decide +kernel
theorem d_Model_takeParameter_294 : decode prog_11_method_67_code 294 = .ok (.iconst 1, 1) := by decide +kernel
theorem d_Model_takeParameter_295 : decode prog_11_method_67_code 295 = .ok (.iadd, 1) := by decide +kernel
theorem d_Model_takeParameter_296 : decode prog_11_method_67_code 296 = .ok (.putfield 347, 3) := by decide +kernel
theorem d_Model_takeParameter_299 : decode prog_11_method_67_code 299 = .ok (.return_, 1) := by decide +kernel
theorem d_Model_makeSmall_0 : decode prog_11_method_65_code 0 = .ok (.aload_n 0, 1) := by decide +kernel
theorem d_Model_makeSmall_1 : decode prog_11_method_65_code 1 = .ok (.iload_n 1, 1) := by decide +kernel
theorem d_Model_makeSmall_2 : decode prog_11_method_65_code 2 = .ok (.invokevirtual 204, 3) := by decide +kernel
theorem d_Model_makeSmall_5 : decode prog_11_method_65_code 5 = .ok (.aload_n 0, 1) := by decide +kernel
theorem d_Model_makeSmall_6 : decode prog_11_method_65_code 6 = .ok (.getfield 37, 3) := by decide +kernel
theorem d_Model_makeSmall_9 : decode prog_11_method_65_code 9 = .ok (.iload_n 2, 1) := by decide +kernel
theorem d_Model_makeSmall_10 : decode prog_11_method_65_code 10 = .ok (.iaload, 1) := by decide +kernel
theorem d_Model_makeSmall_11 : decode prog_11_method_65_code 11 = .ok (.istore_n 3, 1) := by decide +kernel
theorem d_Model_makeSmall_12 : decode prog_11_method_65_code 12 = .ok (.iload_n 3, 1) := by decide +kernel
theorem d_Model_makeSmall_13 : decode prog_11_method_65_code 13 = .ok (.aload_n 0, 1) := by decide +kernel
theorem d_Model_makeSmall_14 : decode prog_11_method_65_code 14 = .ok (.getfield 40, 3) := by decide +kernel
theorem d_Model_makeSmall_17 : decode prog_11_method_65_code 17 = .ok (.iload_n 2, 1) := by decide +kernel
theorem d_Model_makeSmall_18 : decode prog_11_method_65_code 18 = .ok (.iaload, 1) := by decide +kernel
theorem d_Model_makeSmall_19 : decode prog_11_method_65_code 19 = .ok (.if_icmp .ge 23, 3) := by decide +kernel
theorem d_Model_makeSmall_22 : decode prog_11_method_65_code 22 = .ok (.aload_n 0, 1) := by decide +kernel
theorem d_Model_makeSmall_23 : decode prog_11_method_65_code 23 = .ok (.iload_n 1, 1) := by decide +kernel
theorem d_Model_makeSmall_24 : decode prog_11_method_65_code 24 = .ok (.aload_n 0, 1) := by decide +kernel
theorem d_Model_makeSmall_25 : decode prog_11_method_65_code 25 = .ok (.getfield 43, 3) := by decide +kernel
theorem d_Model_makeSmall_28 : decode prog_11_method_65_code 28 = .ok (.iload_n 3, 1) := by decide +kernel
theorem d_Model_makeSmall_29 : decode prog_11_method_65_code 29 = .ok (.iaload, 1) := by decide +kernel
theorem d_Model_makeSmall_30 : decode prog_11_method_65_code 30 = .ok (.invokestatic 133, 3) := by decide +kernel
theorem d_Model_makeSmall_33 : decode prog_11_method_65_code 33 = .ok (.invokevirtual 191, 3) := by decide +kernel
theorem d_Model_makeSmall_36 : decode prog_11_method_65_code 36 = .ok (.iinc 3 1, 3) := by decide +kernel
theorem d_Model_makeSmall_39 : decode prog_11_method_65_code 39 = .ok (.goto (-27), 3) := by decide +kernel
theorem d_Model_makeSmall_42 : decode prog_11_method_65_code 42 = .ok (.aload_n 0, 1) := by decide +kernel
theorem d_Model_makeSmall_43 : decode prog_11_method_65_code 43 = .ok (.iload_n 1, 1) := by decide +kernel
theorem d_Model_makeSmall_44 : decode prog_11_method_65_code 44 = .ok (.invokevirtual 210, 3) := by decide +kernel
theorem d_Model_makeSmall_47 : decode prog_11_method_65_code 47 = .ok (.return_, 1) := by decide +kernel
theorem d_Model_type_0 : decode prog_11_method_66_code 0 = .ok (.aload_n 0, 1) := by decide +kernel
theorem d_Model_type_1 : decode prog_11_method_66_code 1 = .ok (.aload_n 0, 1) := by decide +kernel
theorem d_Model_type_2 : decode prog_11_method_66_code 2 = .ok (.iload_n 1, 1) := by decide +kernel
theorem d_Model_type_3 : decode prog_11_method_66_code 3 = .ok (.invokevirtual 137, 3) := by decide +kernel
theorem d_Model_type_6 : decode prog_11_method_66_code 6 = .ok (.ifCond .eq 7, 3) := by decide +kernel
theorem d_Model_type_9 : decode prog_11_method_66_code 9 = .ok (.iconst 0, 1) := by decide +kernel
theorem d_Model_type_10 : decode prog_11_method_66_code 10 = .ok (.goto 4, 3) := by decide +kernel
theorem d_Model_type_13 : decode prog_11_method_66_code 13 = .ok (.iconst 1, 1) := by decide +kernel
theorem d_Model_type_14 : decode prog_11_method_66_code 14 = .ok (.putfield 99, 3) := by decide +kernel
theorem d_Model_type_17 : decode prog_11_method_66_code 17 = .ok (.aload_n 0, 1) := by decide +kernel
theorem d_Model_type_18 : decode prog_11_method_66_code 18 = .ok (.getfield 99, 3) := by decide +kernel
theorem d_Model_type_21 : decode prog_11_method_66_code 21 = .ok (.ifCond .eq 5, 3) := by decide +kernel
theorem d_Model_type_24 : decode prog_11_method_66_code 24 = .ok (.iconst 0, 1) := by decide +kernel
theorem d_Model_type_25 : decode prog_11_method_66_code 25 = .ok (.ireturn, 1) := by decide +kernel
theorem d_Model_type_26 : decode prog_11_method_66_code 26 = .ok (.aload_n 0, 1) := by decide +kernel
theorem d_Model_type_27 : decode prog_11_method_66_code 27 = .ok (.iload_n 1, 1) := by decide +kernel
theorem d_Model_type_28 : decode prog_11_method_66_code 28 = .ok (.iconst 1, 1) := by decide +kernel
theorem d_Model_type_29 : decode prog_11_method_66_code 29 = .ok (.invokevirtual 251, 3) := by decide +kernel
theorem d_Model_type_32 : decode prog_11_method_66_code 32 = .ok (.aload_n 0, 1) := by decide +kernel
theorem d_Model_type_33 : decode prog_11_method_66_code 33 = .ok (.iconst 5, 1) := by decide +kernel
theorem d_Model_type_34 : decode prog_11_method_66_code 34 = .ok (.bipush 6, 2) := by decide +kernel
theorem d_Model_type_36 : decode prog_11_method_66_code 36 = .ok (.iconst 2, 1) := by decide +kernel
theorem d_Model_type_37 : decode prog_11_method_66_code 37 = .ok (.invokevirtual 255, 3) := by decide +kernel
theorem d_Model_type_40 : decode prog_11_method_66_code 40 = .ok (.aload_n 0, 1) := by decide +kernel
theorem d_Model_type_41 : decode prog_11_method_66_code 41 = .ok (.iconst 0, 1) := by decide +kernel
theorem d_Model_type_42 : decode prog_11_method_66_code 42 = .ok (.putfield 347, 3) := by decide +kernel
theorem d_Model_type_45 : decode prog_11_method_66_code 45 = .ok (.aload_n 0, 1) := by decide +kernel
theorem d_Model_type_46 : decode prog_11_method_66_code 46 = .ok (.iconst (-1), 1) := by decide +kernel
theorem d_Model_type_47 : decode prog_11_method_66_code 47 = .ok (.putfield 92, 3) := by decide +kernel
theorem d_Model_type_50 : decode prog_11_method_66_code 50 = .ok (.aload_n 0, 1) := by decide +kernel
theorem d_Model_type_51 : decode prog_11_method_66_code 51 = .ok (.iconst (-1), 1) := by decide +kernel
theorem d_Model_type_52 : decode prog_11_method_66_code 52 = .ok (.putfield 96, 3) := by decide +kernel
theorem d_Model_type_55 : decode prog_11_method_66_code 55 = .ok (.aload_n 0, 1) := by decide +kernel
theorem d_Model_type_56 : decode prog_11_method_66_code 56 = .ok (.iconst 0, 1) := by decide +kernel
theorem d_Model_type_57 : decode prog_11_method_66_code 57 = .ok (.aload_n 0, 1) := by decide +kernel
theorem d_Model_type_58 : decode prog_11_method_66_code 58 = .ok (.getfield 149, 3) := by decide +kernel
theorem d_Model_type_61 : decode prog_11_method_66_code 61 = .ok (.invokevirtual 197, 3) := by decide +kernel
theorem d_Model_type_64 : decode prog_11_method_66_code 64 = .ok (.istore_n 2, 1) := by decide +kernel
theorem d_Model_type_65 : decode prog_11_method_66_code 65 = .ok (.aload_n 0, 1) := by decide +kernel
theorem d_Model_type_66 : decode prog_11_method_66_code 66 = .ok (.iload_n 2, 1) := by decide +kernel
theorem d_Model_type_67 : decode prog_11_method_66_code 67 = .ok (.iconst 1, 1) := by decide +kernel
theorem d_Model_type_68 : decode prog_11_method_66_code 68 = .ok (.iadd, 1) := by decide +kernel
theorem d_Model_type_69 : decode prog_11_method_66_code 69 = .ok (.aload_n 0, 1) := by decide +kernel
theorem d_Model_type_70 : decode prog_11_method_66_code 70 = .ok (.getfield 149, 3) := by decide +kernel
theorem d_Model_type_73 : decode prog_11_method_66_code 73 = .ok (.invokevirtual 197, 3) := by decide +kernel
theorem d_Model_type_76 : decode prog_11_method_66_code 76 = .ok (.istore_n 3, 1) := by decide +kernel
theorem d_Model_type_77 : decode prog_11_method_66_code 77 = .ok (.aload_n 0, 1) := by decide +kernel
theorem d_Model_type_78 : decode prog_11_method_66_code 78 = .ok (.iload_n 3, 1) := by decide +kernel
theorem d_Model_type_79 : decode prog_11_method_66_code 79 = .ok (.iconst 1, 1) := by decide +kernel
theorem d_Model_type_80 : decode prog_11_method_66_code 80 = .ok (.iadd, 1) := by decide +kernel
theorem d_Model_type_81 : decode prog_11_method_66_code 81 = .ok (.aload_n 0, 1) := by decide +kernel
theorem d_Model_type_82 : decode prog_11_method_66_code 82 = .ok (.getfield 149, 3) := by decide +kernel
theorem d_Model_type_85 : decode prog_11_method_66_code 85 = .ok (.invokevirtual 197, 3) := by decide +kernel
theorem d_Model_type_88 : decode prog_11_method_66_code 88 = .ok (.istore 4, 2) := by decide +kernel
theorem d_Model_type_90 : decode prog_11_method_66_code 90 = .ok (.iload 4, 2) := by decide +kernel
theorem d_Model_type_92 : decode prog_11_method_66_code 92 = .ok (.aload_n 0, 1) := by decide +kernel
theorem d_Model_type_93 : decode prog_11_method_66_code 93 = .ok (.getfield 149, 3) := by decide +kernel
theorem d_Model_type_96 : decode prog_11_method_66_code 96 = .ok (.if_icmp .ge 34, 3) := by decide +kernel
theorem d_Model_type_99 : decode prog_11_method_66_code 99 = .ok (.aload_n 0, 1) := by decide +kernel
theorem d_Model_type_100 : decode prog_11_method_66_code 100 = .ok (.getfield 31, 3) := by decide +kernel
theorem d_Model_type_103 : decode prog_11_method_66_code 103 = .ok (.iload_n 2, 1) := by decide +kernel
theorem d_Model_type_104 : decode prog_11_method_66_code 104 = .ok (.iaload, 1) := by decide +kernel
theorem d_Model_type_105 : decode prog_11_method_66_code 105 = .ok (.iconst 4, 1) := by decide +kernel
theorem d_Model_type_106 : decode prog_11_method_66_code 106 = .ok (.if_icmp .ne 24, 3) := by decide +kernel
theorem d_Model_type_109 : decode prog_11_method_66_code 109 = .ok (.aload_n 0, 1) := by decide +kernel
theorem d_Model_type_110 : decode prog_11_method_66_code 110 = .ok (.iload_n 3, 1) := by decide +kernel
theorem d_Model_type_111 : decode prog_11_method_66_code 111 = .ok (.bipush 47, 2) := by decide +kernel
theorem d_Model_type_113 : decode prog_11_method_66_code 113 = .ok (.invokevirtual 200, 3) := by decide +kernel
theorem d_Model_type_116 : decode prog_11_method_66_code 116 = .ok (.ifCond .eq 14, 3) := by decide +kernel
theorem d_Model_type_119 : decode prog_11_method_66_code 119 = .ok (.aload_n 0, 1) := by decide +kernel
theorem d_Model_type_120 : decode prog_11_method_66_code 120 = .ok (.getfield 31, 3) := by decide +kernel
theorem d_Model_type_123 : decode prog_11_method_66_code 123 = .ok (.iload 4, 2) := by decide +kernel
theorem d_Model_type_125 : decode prog_11_method_66_code 125 = .ok (.iaload, 1) := by decide +kernel
theorem d_Model_type_126 : decode prog_11_method_66_code 126 = .ok (.iconst 4, 1) := by decide +kernel
theorem d_Model_type_127 : decode prog_11_method_66_code 127 = .ok (.if_icmp .eq 5, 3) := by decide +kernel
theorem d_Model_type_130 : decode prog_11_method_66_code 130 = .ok (.iconst 0, 1) := by decide +kernel
theorem d_Model_type_131 : decode prog_11_method_66_code 131 = .ok (.ireturn, 1) := by decide +kernel
theorem d_Model_type_132 : decode prog_11_method_66_code 132 = .ok (.iconst 0, 1) := by decide +kernel
theorem d_Model_type_133 : decode prog_11_method_66_code 133 = .ok (.istore 5, 2) := by decide +kernel
theorem d_Model_type_135 : decode prog_11_method_66_code 135 = .ok (.iload 5, 2) := by decide +kernel
theorem d_Model_type_137 : decode prog_11_method_66_code 137 = .ok (.aload_n 0, 1) := by decide +kernel
theorem d_Model_type_138 : decode prog_11_method_66_code 138 = .ok (.getfield 152, 3) := by decide +kernel
theorem d_Model_type_141 : decode prog_11_method_66_code 141 = .ok (.if_icmp .ge 23, 3) := by decide +kernel
theorem d_Model_type_144 : decode prog_11_method_66_code 144 = .ok (.aload_n 0, 1) := by decide +kernel
theorem d_Model_type_145 : decode prog_11_method_66_code 145 = .ok (.getfield 83, 3) := by decide +kernel
theorem d_Model_type_148 : decode prog_11_method_66_code 148 = .ok (.iload 5, 2) := by decide +kernel
theorem d_Model_type_150 : decode prog_11_method_66_code 150 = .ok (.aload_n 0, 1) := by decide +kernel
theorem d_Model_type_151 : decode prog_11_method_66_code 151 = .ok (.getfield 43, 3) := by decide +kernel
theorem d_Model_type_154 : decode prog_11_method_66_code 154 = .ok (.iload 5, 2) := by decide +kernel
theorem d_Model_type_156 : decode prog_11_method_66_code 156 = .ok (.iaload, 1) := by decide +kernel
theorem d_Model_type_157 : decode prog_11_method_66_code 157 = .ok (.iastore, 1) := by decide +kernel
theorem d_Model_type_158 : decode prog_11_method_66_code 158 = .ok (.iinc 5 1, 3) := by decide +kernel
theorem d_Model_type_161 : decode prog_11_method_66_code 161 = .ok (.goto (-26), 3) := by decide +kernel
theorem d_Model_type_164 : decode prog_11_method_66_code 164 = .ok (.aload_n 0, 1) := by decide +kernel
theorem d_Model_type_165 : decode prog_11_method_66_code 165 = .ok (.iconst 5, 1) := by decide +kernel
theorem d_Model_type_166 : decode prog_11_method_66_code 166 = .ok (.iload_n 2, 1) := by decide +kernel
theorem d_Model_type_167 : decode prog_11_method_66_code 167 = .ok (.invokevirtual 350, 3) := by decide +kernel
theorem d_Model_type_170 : decode prog_11_method_66_code 170 = .ok (.aload_n 0, 1) := by decide +kernel
theorem d_Model_type_171 : decode prog_11_method_66_code 171 = .ok (.bipush 6, 2) := by decide +kernel
theorem d_Model_type_173 : decode prog_11_method_66_code 173 = .ok (.iload 4, 2) := by decide +kernel
theorem d_Model_type_175 : decode prog_11_method_66_code 175 = .ok (.invokevirtual 350, 3) := by decide +kernel
theorem d_Model_type_178 : decode prog_11_method_66_code 178 = .ok (.iload 4, 2) := by decide +kernel
theorem d_Model_type_180 : decode prog_11_method_66_code 180 = .ok (.iconst 1, 1) := by decide +kernel
theorem d_Model_type_181 : decode prog_11_method_66_code 181 = .ok (.iadd, 1) := by decide +kernel
theorem d_Model_type_182 : decode prog_11_method_66_code 182 = .ok (.istore 5, 2) := by decide +kernel
theorem d_Model_type_184 : decode prog_11_method_66_code 184 = .ok (.iload 5, 2) := by decide +kernel
theorem d_Model_type_186 : decode prog_11_method_66_code 186 = .ok (.aload_n 0, 1) := by decide +kernel
theorem d_Model_type_187 : decode prog_11_method_66_code 187 = .ok (.getfield 149, 3) := by decide +kernel
theorem d_Model_type_190 : decode prog_11_method_66_code 190 = .ok (.if_icmp .ge 52, 3) := by decide +kernel
theorem d_Model_type_193 : decode prog_11_method_66_code 193 = .ok (.iload 5, 2) := by decide +kernel
theorem d_Model_type_195 : decode prog_11_method_66_code 195 = .ok (.aload_n 0, 1) := by decide +kernel
theorem d_Model_type_196 : decode prog_11_method_66_code 196 = .ok (.getfield 149, 3) := by decide +kernel
theorem d_Model_type_199 : decode prog_11_method_66_code 199 = .ok (.if_icmp .ge 20, 3) := by decide +kernel
theorem d_Model_type_202 : decode prog_11_method_66_code 202 = .ok (.aload_n 0, 1) := by decide +kernel
theorem d_Model_type_203 : decode prog_11_method_66_code 203 = .ok (.iload 5, 2) := by decide +kernel
theorem d_Model_type_205 : decode prog_11_method_66_code 205 = .ok (.bipush 59, 2) := by decide +kernel
theorem d_Model_type_207 : decode prog_11_method_66_code 207 = .ok (.invokevirtual 200, 3) := by decide +kernel
theorem d_Model_type_210 : decode prog_11_method_66_code 210 = .ok (.ifCond .ne 9, 3) := by decide +kernel
theorem d_Model_type_213 : decode prog_11_method_66_code 213 = .ok (.iinc 5 1, 3) := by decide +kernel
theorem d_Model_type_216 : decode prog_11_method_66_code 216 = .ok (.goto (-23), 3) := by decide +kernel
theorem d_Model_type_219 : decode prog_11_method_66_code 219 = .ok (.iload 5, 2) := by decide +kernel
theorem d_Model_type_221 : decode prog_11_method_66_code 221 = .ok (.aload_n 0, 1) := by decide +kernel
theorem d_Model_type_222 : decode prog_11_method_66_code 222 = .ok (.getfield 149, 3) := by decide +kernel
theorem d_Model_type_225 : decode prog_11_method_66_code 225 = .ok (.if_icmp .ge 11, 3) := by decide +kernel
theorem d_Model_type_228 : decode prog_11_method_66_code 228 = .ok (.aload_n 0, 1) := by decide +kernel
theorem d_Model_type_229 : decode prog_11_method_66_code 229 = .ok (.iload 5, 2) := by decide +kernel
theorem d_Model_type_231 : decode prog_11_method_66_code 231 = .ok (.iconst 1, 1) := by decide +kernel
theorem d_Model_type_232 : decode prog_11_method_66_code 232 = .ok (.iadd, 1) := by decide +kernel
theorem d_Model_type_233 : decode prog_11_method_66_code 233 = .ok (.invokevirtual 353, 3) := by decide +kernel
theorem d_Model_type_236 : decode prog_11_method_66_code 236 = .ok (.iinc 5 1, 3) := by decide +kernel
theorem d_Model_type_239 : decode prog_11_method_66_code 239 = .ok (.goto (-55), 3) := by decide +kernel
theorem d_Model_type_242 : decode prog_11_method_66_code 242 = .ok (.iconst 1, 1) := by decide +kernel
theorem d_Model_type_243 : decode prog_11_method_66_code 243 = .ok (.ireturn, 1) := by decide +kernel
theorem d_Model_keep_0 : decode prog_11_method_10_code 0 = .ok (.iload_n 1, 1) := by decide +kernel
theorem d_Model_keep_1 : decode prog_11_method_10_code 1 = .ok (.istore_n 3, 1) := by decide +kernel
theorem d_Model_keep_2 : decode prog_11_method_10_code 2 = .ok (.iload_n 3, 1) := by decide +kernel
theorem d_Model_keep_3 : decode prog_11_method_10_code 3 = .ok (.iload_n 2, 1) := by decide +kernel
theorem d_Model_keep_4 : decode prog_11_method_10_code 4 = .ok (.if_icmp .ge 34, 3) := by decide +kernel
theorem d_Model_keep_7 : decode prog_11_method_10_code 7 = .ok (.aload_n 0, 1) := by decide +kernel
theorem d_Model_keep_8 : decode prog_11_method_10_code 8 = .ok (.getfield 28, 3) := by decide +kernel
theorem d_Model_keep_11 : decode prog_11_method_10_code 11 = .ok (.aload_n 0, 1) := by decide +kernel
theorem d_Model_keep_12 : decode prog_11_method_10_code 12 = .ok (.getfield 113, 3) := by decide +kernel
theorem d_Model_keep_15 : decode prog_11_method_10_code 15 = .ok (.aload_n 0, 1) := by decide +kernel
theorem d_Model_keep_16 : decode prog_11_method_10_code 16 = .ok (.getfield 13, 3) := by decide +kernel
theorem d_Model_keep_19 : decode prog_11_method_10_code 19 = .ok (.iload_n 3, 1) := by decide +kernel
theorem d_Model_keep_20 : decode prog_11_method_10_code 20 = .ok (.iaload, 1) := by decide +kernel
theorem d_Model_keep_21 : decode prog_11_method_10_code 21 = .ok (.iastore, 1) := by decide +kernel
theorem d_Model_keep_22 : decode prog_11_method_10_code 22 = .ok (.aload_n 0, 1) := by decide +kernel
theorem d_Model_keep_23 : decode prog_11_method_10_code 23 = .ok (.dup, 1) := by decide +kernel
theorem d_Model_keep_24 : decode prog_11_method_10_code 24 = .ok (.getfield 113, 3) := by decide +kernel
theorem d_Model_keep_27 : decode prog_11_method_10_code 27 = .ok (.iconst 1, 1) := by decide +kernel
theorem d_Model_keep_28 : decode prog_11_method_10_code 28 = .ok (.iadd, 1) := by decide +kernel
theorem d_Model_keep_29 : decode prog_11_method_10_code 29 = .ok (.putfield 113, 3) := by decide +kernel
theorem d_Model_keep_32 : decode prog_11_method_10_code 32 = .ok (.iinc 3 1, 3) := by decide +kernel
theorem d_Model_keep_35 : decode prog_11_method_10_code 35 = .ok (.goto (-33), 3) := by decide +kernel
theorem d_Model_keep_38 : decode prog_11_method_10_code 38 = .ok (.return_, 1) := by decide +kernel
theorem d_Model_addField_0 : decode prog_11_method_11_code 0 = .ok (.iload_n 1, 1) := by decide +kernel
theorem d_Model_addField_1 : decode prog_11_method_11_code 1 = .ok (.istore 4, 2) := by decide +kernel
theorem d_Model_addField_3 : decode prog_11_method_11_code 3 = .ok (.aload_n 0, 1) := by decide +kernel
theorem d_Model_addField_4 : decode prog_11_method_11_code 4 = .ok (.getfield 13, 3) := by decide +kernel
theorem d_Model_addField_7 : decode prog_11_method_11_code 7 = .ok (.iload 4, 2) := by decide +kernel
theorem d_Model_addField_9 : decode prog_11_method_11_code 9 = .ok (.iaload, 1) := by decide +kernel
theorem d_Model_addField_10 : decode prog_11_method_11_code 10 = .ok (.bipush 33, 2) := by decide +kernel
theorem d_Model_addField_12 : decode prog_11_method_11_code 12 = .ok (.if_icmp .lt 33, 3) := by decide +kernel
theorem d_Model_addField_15 : decode prog_11_method_11_code 15 = .ok (.aload_n 0, 1) := by decide +kernel
theorem d_Model_addField_16 : decode prog_11_method_11_code 16 = .ok (.getfield 13, 3) := by decide +kernel
theorem d_Model_addField_19 : decode prog_11_method_11_code 19 = .ok (.iload 4, 2) := by decide +kernel
theorem d_Model_addField_21 : decode prog_11_method_11_code 21 = .ok (.iaload, 1) := by decide +kernel
theorem d_Model_addField_22 : decode prog_11_method_11_code 22 = .ok (.bipush 126, 2) := by decide +kernel
theorem d_Model_addField_24 : decode prog_11_method_11_code 24 = .ok (.if_icmp .gt 21, 3) := by decide +kernel
theorem d_Model_addField_27 : decode prog_11_method_11_code 27 = .ok (.aload_n 0, 1) := by decide +kernel
theorem d_Model_addField_28 : decode prog_11_method_11_code 28 = .ok (.getfield 13, 3) := by decide +kernel
theorem d_Model_addField_31 : decode prog_11_method_11_code 31 = .ok (.iload 4, 2) := by decide +kernel
theorem d_Model_addField_33 : decode prog_11_method_11_code 33 = .ok (.iaload, 1) := by decide +kernel
theorem d_Model_addField_34 : decode prog_11_method_11_code 34 = .ok (.bipush 58, 2) := by decide +kernel
theorem d_Model_addField_36 : decode prog_11_method_11_code 36 = .ok (.if_icmp .eq 9, 3) := by decide +kernel
theorem d_Model_addField_39 : decode prog_11_method_11_code 39 = .ok (.iinc 4 1, 3) := by decide +kernel
theorem d_Model_addField_42 : decode prog_11_method_11_code 42 = .ok (.goto (-39), 3) := by decide +kernel
theorem d_Model_addField_45 : decode prog_11_method_11_code 45 = .ok (.aload_n 0, 1) := by decide +kernel
theorem d_Model_addField_46 : decode prog_11_method_11_code 46 = .ok (.getfield 16, 3) := by decide +kernel
theorem d_Model_addField_49 : decode prog_11_method_11_code 49 = .ok (.aload_n 0, 1) := by decide +kernel
theorem d_Model_addField_50 : decode prog_11_method_11_code 50 = .ok (.getfield 116, 3) := by decide +kernel
theorem d_Model_addField_53 : decode prog_11_method_11_code 53 = .ok (.aload_n 0, 1) := by decide +kernel
theorem d_Model_addField_54 : decode prog_11_method_11_code 54 = .ok (.getfield 113, 3) := by decide +kernel
theorem d_Model_addField_57 : decode prog_11_method_11_code 57 = .ok (.iastore, 1) := by decide +kernel
theorem d_Model_addField_58 : decode prog_11_method_11_code 58 = .ok (.aload_n 0, 1) := by decide +kernel
theorem d_Model_addField_59 : decode prog_11_method_11_code 59 = .ok (.getfield 19, 3) := by decide +kernel
theorem d_Model_addField_62 : decode prog_11_method_11_code 62 = .ok (.aload_n 0, 1) := by decide +kernel
theorem d_Model_addField_63 : decode prog_11_method_11_code 63 = .ok (.getfield 116, 3) := by decide +kernel
theorem d_Model_addField_66 : decode prog_11_method_11_code 66 = .ok (.iload 4, 2) := by decide +kernel
theorem d_Model_addField_68 : decode prog_11_method_11_code 68 = .ok (.iload_n 1, 1) := by decide +kernel
theorem d_Model_addField_69 : decode prog_11_method_11_code 69 = .ok (.isub, 1) := by decide +kernel
theorem d_Model_addField_70 : decode prog_11_method_11_code 70 = .ok (.iastore, 1) := by decide +kernel
theorem d_Model_addField_71 : decode prog_11_method_11_code 71 = .ok (.aload_n 0, 1) := by decide +kernel
theorem d_Model_addField_72 : decode prog_11_method_11_code 72 = .ok (.iload_n 1, 1) := by decide +kernel
theorem d_Model_addField_73 : decode prog_11_method_11_code 73 = .ok (.iload 4, 2) := by decide +kernel
theorem d_Model_addField_75 : decode prog_11_method_11_code 75 = .ok (.invokevirtual 119, 3) := by decide +kernel
theorem d_Model_addField_78 : decode prog_11_method_11_code 78 = .ok (.aload_n 0, 1) := by decide +kernel
theorem d_Model_addField_79 : decode prog_11_method_11_code 79 = .ok (.getfield 22, 3) := by decide +kernel
theorem d_Model_addField_82 : decode prog_11_method_11_code 82 = .ok (.aload_n 0, 1) := by decide +kernel
theorem d_Model_addField_83 : decode prog_11_method_11_code 83 = .ok (.getfield 116, 3) := by decide +kernel
theorem d_Model_addField_86 : decode prog_11_method_11_code 86 = .ok (.aload_n 0, 1) := by decide +kernel
theorem d_Model_addField_87 : decode prog_11_method_11_code 87 = .ok (.getfield 113, 3) := by decide +kernel
theorem d_Model_addField_90 : decode prog_11_method_11_code 90 = .ok (.iastore, 1) := by decide +kernel
theorem d_Model_addField_91 : decode prog_11_method_11_code 91 = .ok (.aload_n 0, 1) := by decide +kernel
theorem d_Model_addField_92 : decode prog_11_method_11_code 92 = .ok (.getfield 25, 3) := by decide +kernel
theorem d_Model_addField_95 : decode prog_11_method_11_code 95 = .ok (.aload_n 0, 1) := by decide +kernel
theorem d_Model_addField_96 : decode prog_11_method_11_code 96 = .ok (.getfield 116, 3) := by decide +kernel
theorem d_Model_addField_99 : decode prog_11_method_11_code 99 = .ok (.iload_n 3, 1) := by decide +kernel
theorem d_Model_addField_100 : decode prog_11_method_11_code 100 = .ok (.iload_n 2, 1) := by decide +kernel
theorem d_Model_addField_101 : decode prog_11_method_11_code 101 = .ok (.isub, 1) := by decide +kernel
theorem d_Model_addField_102 : decode prog_11_method_11_code 102 = .ok (.iconst 1, 1) := by decide +kernel
theorem d_Model_addField_103 : decode prog_11_method_11_code 103 = .ok (.isub, 1) := by decide +kernel
theorem d_Model_addField_104 : decode prog_11_method_11_code 104 = .ok (.iastore, 1) := by decide +kernel
theorem d_Model_addField_105 : decode prog_11_method_11_code 105 = .ok (.aload_n 0, 1) := by decide +kernel
theorem d_Model_addField_106 : decode prog_11_method_11_code 106 = .ok (.iload_n 2, 1) := by decide +kernel
theorem d_Model_addField_107 : decode prog_11_method_11_code 107 = .ok (.iconst 1, 1) := by decide +kernel
theorem d_Model_addField_108 : decode prog_11_method_11_code 108 = .ok (.iadd, 1) := by decide +kernel
theorem d_Model_addField_109 : decode prog_11_method_11_code 109 = .ok (.iload_n 3, 1) := by decide +kernel
theorem d_Model_addField_110 : decode prog_11_method_11_code 110 = .ok (.invokevirtual 119, 3) := by decide +kernel
theorem d_Model_addField_113 : decode prog_11_method_11_code 113 = .ok (.aload_n 0, 1) := by decide +kernel
theorem d_Model_addField_114 : decode prog_11_method_11_code 114 = .ok (.dup, 1) := by decide +kernel
theorem d_Model_addField_115 : decode prog_11_method_11_code 115 = .ok (.getfield 116, 3) := by decide +kernel
theorem d_Model_addField_118 : decode prog_11_method_11_code 118 = .ok (.iconst 1, 1) := by decide +kernel
theorem d_Model_addField_119 : decode prog_11_method_11_code 119 = .ok (.iadd, 1) := by decide +kernel
theorem d_Model_addField_120 : decode prog_11_method_11_code 120 = .ok (.putfield 116, 3) := by decide +kernel
theorem d_Model_addField_123 : decode prog_11_method_11_code 123 = .ok (.return_, 1) := by decide +kernel
theorem d_Model_colonOf_0 : decode prog_11_method_9_code 0 = .ok (.iload_n 1, 1) := by decide +kernel
theorem d_Model_colonOf_1 : decode prog_11_method_9_code 1 = .ok (.istore_n 3, 1) := by decide +kernel
theorem d_Model_colonOf_2 : decode prog_11_method_9_code 2 = .ok (.iload_n 3, 1) := by decide +kernel
theorem d_Model_colonOf_3 : decode prog_11_method_9_code 3 = .ok (.iload_n 2, 1) := by decide +kernel
theorem d_Model_colonOf_4 : decode prog_11_method_9_code 4 = .ok (.if_icmp .ge 42, 3) := by decide +kernel
theorem d_Model_colonOf_7 : decode prog_11_method_9_code 7 = .ok (.aload_n 0, 1) := by decide +kernel
theorem d_Model_colonOf_8 : decode prog_11_method_9_code 8 = .ok (.getfield 13, 3) := by decide +kernel
theorem d_Model_colonOf_11 : decode prog_11_method_9_code 11 = .ok (.iload_n 3, 1) := by decide +kernel
theorem d_Model_colonOf_12 : decode prog_11_method_9_code 12 = .ok (.iaload, 1) := by decide +kernel
theorem d_Model_colonOf_13 : decode prog_11_method_9_code 13 = .ok (.bipush 33, 2) := by decide +kernel
theorem d_Model_colonOf_15 : decode prog_11_method_9_code 15 = .ok (.if_icmp .lt 31, 3) := by decide +kernel
theorem d_Model_colonOf_18 : decode prog_11_method_9_code 18 = .ok (.aload_n 0, 1) := by decide +kernel
theorem d_Model_colonOf_19 : decode prog_11_method_9_code 19 = .ok (.getfield 13, 3) := by decide +kernel
theorem d_Model_colonOf_22 : decode prog_11_method_9_code 22 = .ok (.iload_n 3, 1) := by decide +kernel
theorem d_Model_colonOf_23 : decode prog_11_method_9_code 23 = .ok (.iaload, 1) := by decide +kernel
theorem d_Model_colonOf_24 : decode prog_11_method_9_code 24 = .ok (.bipush 126, 2) := by decide +kernel
theorem d_Model_colonOf_26 : decode prog_11_method_9_code 26 = .ok (.if_icmp .gt 20, 3) := by decide +kernel
theorem d_Model_colonOf_29 : decode prog_11_method_9_code 29 = .ok (.aload_n 0, 1) := by decide +kernel
theorem d_Model_colonOf_30 : decode prog_11_method_9_code 30 = .ok (.getfield 13, 3) := by decide +kernel
theorem d_Model_colonOf_33 : decode prog_11_method_9_code 33 = .ok (.iload_n 3, 1) := by decide +kernel
theorem d_Model_colonOf_34 : decode prog_11_method_9_code 34 = .ok (.iaload, 1) := by decide +kernel
theorem d_Model_colonOf_35 : decode prog_11_method_9_code 35 = .ok (.bipush 58, 2) := by decide +kernel
theorem d_Model_colonOf_37 : decode prog_11_method_9_code 37 = .ok (.if_icmp .eq 9, 3) := by decide +kernel
theorem d_Model_colonOf_40 : decode prog_11_method_9_code 40 = .ok (.iinc 3 1, 3) := by decide +kernel
theorem d_Model_colonOf_43 : decode prog_11_method_9_code 43 = .ok (.goto (-41), 3) := by decide +kernel
theorem d_Model_colonOf_46 : decode prog_11_method_9_code 46 = .ok (.iload_n 3, 1) := by decide +kernel
theorem d_Model_colonOf_47 : decode prog_11_method_9_code 47 = .ok (.iload_n 1, 1) := by decide +kernel
theorem d_Model_colonOf_48 : decode prog_11_method_9_code 48 = .ok (.if_icmp .ne 5, 3) := by decide +kernel
theorem d_Model_colonOf_51 : decode prog_11_method_9_code 51 = .ok (.iconst (-1), 1) := by decide +kernel
theorem d_Model_colonOf_52 : decode prog_11_method_9_code 52 = .ok (.ireturn, 1) := by decide +kernel
theorem d_Model_colonOf_53 : decode prog_11_method_9_code 53 = .ok (.iload_n 3, 1) := by decide +kernel
theorem d_Model_colonOf_54 : decode prog_11_method_9_code 54 = .ok (.iload_n 2, 1) := by decide +kernel
theorem d_Model_colonOf_55 : decode prog_11_method_9_code 55 = .ok (.if_icmp .ge 21, 3) := by decide +kernel
theorem d_Model_colonOf_58 : decode prog_11_method_9_code 58 = .ok (.aload_n 0, 1) := by decide +kernel
theorem d_Model_colonOf_59 : decode prog_11_method_9_code 59 = .ok (.getfield 13, 3) := by decide +kernel
theorem d_Model_colonOf_62 : decode prog_11_method_9_code 62 = .ok (.iload_n 3, 1) := by decide +kernel
theorem d_Model_colonOf_63 : decode prog_11_method_9_code 63 = .ok (.iaload, 1) := by decide +kernel
theorem d_Model_colonOf_64 : decode prog_11_method_9_code 64 = .ok (.invokestatic 109, 3) := by decide +kernel
theorem d_Model_colonOf_67 : decode prog_11_method_9_code 67 = .ok (.ifCond .eq 9, 3) := by decide +kernel
theorem d_Model_colonOf_70 : decode prog_11_method_9_code 70 = .ok (.iinc 3 1, 3) := by decide +kernel
theorem d_Model_colonOf_73 : decode prog_11_method_9_code 73 = .ok (.goto (-20), 3) := by decide +kernel
theorem d_Model_colonOf_76 : decode prog_11_method_9_code 76 = .ok (.iload_n 3, 1) := by decide +kernel
theorem d_Model_colonOf_77 : decode prog_11_method_9_code 77 = .ok (.iload_n 2, 1) := by decide +kernel
theorem d_Model_colonOf_78 : decode prog_11_method_9_code 78 = .ok (.if_icmp .ge 18, 3) := by decide +kernel
theorem d_Model_colonOf_81 : decode prog_11_method_9_code 81 = .ok (.aload_n 0, 1) := by decide +kernel
theorem d_Model_colonOf_82 : decode prog_11_method_9_code 82 = .ok (.getfield 13, 3) := by decide +kernel
theorem d_Model_colonOf_85 : decode prog_11_method_9_code 85 = .ok (.iload_n 3, 1) := by decide +kernel
theorem d_Model_colonOf_86 : decode prog_11_method_9_code 86 = .ok (.iaload, 1) := by decide +kernel
theorem d_Model_colonOf_87 : decode prog_11_method_9_code 87 = .ok (.bipush 58, 2) := by decide +kernel
theorem d_Model_colonOf_89 : decode prog_11_method_9_code 89 = .ok (.if_icmp .ne 7, 3) := by decide +kernel
theorem d_Model_colonOf_92 : decode prog_11_method_9_code 92 = .ok (.iload_n 3, 1) := by decide +kernel
theorem d_Model_colonOf_93 : decode prog_11_method_9_code 93 = .ok (.goto 4, 3) := by decide +kernel
theorem d_Model_colonOf_96 : decode prog_11_method_9_code 96 = .ok (.iconst (-1), 1) := by decide +kernel
theorem d_Model_colonOf_97 : decode prog_11_method_9_code 97 = .ok (.ireturn, 1) := by decide +kernel
theorem d_Model_read_0 : decode prog_11_method_12_code 0 = .ok (.aload_n 0, 1) := by decide +kernel
theorem d_Model_read_1 : decode prog_11_method_12_code 1 = .ok (.iconst 0, 1) := by decide +kernel
theorem d_Model_read_2 : decode prog_11_method_12_code 2 = .ok (.putfield 99, 3) := by decide +kernel
theorem d_Model_read_5 : decode prog_11_method_12_code 5 = .ok (.aload_n 0, 1) := by decide +kernel
theorem d_Model_read_6 : decode prog_11_method_12_code 6 = .ok (.getfield 106, 3) := by decide +kernel
theorem d_Model_read_9 : decode prog_11_method_12_code 9 = .ok (.istore_n 1, 1) := by decide +kernel
theorem d_Model_read_10 : decode prog_11_method_12_code 10 = .ok (.aload_n 0, 1) := by decide +kernel
theorem d_Model_read_11 : decode prog_11_method_12_code 11 = .ok (.iconst 0, 1) := by decide +kernel
theorem d_Model_read_12 : decode prog_11_method_12_code 12 = .ok (.putfield 106, 3) := by decide +kernel
theorem d_Model_read_15 : decode prog_11_method_12_code 15 = .ok (.aload_n 0, 1) := by decide +kernel
theorem d_Model_read_16 : decode prog_11_method_12_code 16 = .ok (.iconst 0, 1) := by decide +kernel
theorem d_Model_read_17 : decode prog_11_method_12_code 17 = .ok (.putfield 116, 3) := by decide +kernel
theorem d_Model_read_20 : decode prog_11_method_12_code 20 = .ok (.aload_n 0, 1) := by decide +kernel
theorem d_Model_read_21 : decode prog_11_method_12_code 21 = .ok (.iconst 0, 1) := by decide +kernel
theorem d_Model_read_22 : decode prog_11_method_12_code 22 = .ok (.putfield 122, 3) := by decide +kernel
theorem d_Model_read_25 : decode prog_11_method_12_code 25 = .ok (.aload_n 0, 1) := by decide +kernel
theorem d_Model_read_26 : decode prog_11_method_12_code 26 = .ok (.iconst 0, 1) := by decide +kernel
theorem d_Model_read_27 : decode prog_11_method_12_code 27 = .ok (.putfield 113, 3) := by decide +kernel
theorem d_Model_read_30 : decode prog_11_method_12_code 30 = .ok (.iconst 0, 1) := by decide +kernel
theorem d_Model_read_31 : decode prog_11_method_12_code 31 = .ok (.istore_n 2, 1) := by decide +kernel
theorem d_Model_read_32 : decode prog_11_method_12_code 32 = .ok (.iconst 0, 1) := by decide +kernel
theorem d_Model_read_33 : decode prog_11_method_12_code 33 = .ok (.istore_n 3, 1) := by decide +kernel
theorem d_Model_read_34 : decode prog_11_method_12_code 34 = .ok (.iload_n 3, 1) := by decide +kernel
theorem d_Model_read_35 : decode prog_11_method_12_code 35 = .ok (.iload_n 1, 1) := by decide +kernel
theorem d_Model_read_36 : decode prog_11_method_12_code 36 = .ok (.if_icmp .ge 193, 3) := by decide +kernel
theorem d_Model_read_39 : decode prog_11_method_12_code 39 = .ok (.iload_n 3, 1) := by decide +kernel
theorem d_Model_read_40 : decode prog_11_method_12_code 40 = .ok (.istore 4, 2) := by decide +kernel
theorem d_Model_read_42 : decode prog_11_method_12_code 42 = .ok (.iload 4, 2) := by decide +kernel
theorem d_Model_read_44 : decode prog_11_method_12_code 44 = .ok (.iload_n 1, 1) := by decide +kernel
theorem d_Model_read_45 : decode prog_11_method_12_code 45 = .ok (.if_icmp .ge 21, 3) := by decide +kernel
theorem d_Model_read_48 : decode prog_11_method_12_code 48 = .ok (.aload_n 0, 1) := by decide +kernel
theorem d_Model_read_49 : decode prog_11_method_12_code 49 = .ok (.getfield 13, 3) := by decide +kernel
theorem d_Model_read_52 : decode prog_11_method_12_code 52 = .ok (.iload 4, 2) := by decide +kernel
theorem d_Model_read_54 : decode prog_11_method_12_code 54 = .ok (.iaload, 1) := by decide +kernel
theorem d_Model_read_55 : decode prog_11_method_12_code 55 = .ok (.bipush 10, 2) := by decide +kernel
theorem d_Model_read_57 : decode prog_11_method_12_code 57 = .ok (.if_icmp .eq 9, 3) := by decide +kernel
theorem d_Model_read_60 : decode prog_11_method_12_code 60 = .ok (.iinc 4 1, 3) := by decide +kernel
theorem d_Model_read_63 : decode prog_11_method_12_code 63 = .ok (.goto (-21), 3) := by decide +kernel
theorem d_Model_read_66 : decode prog_11_method_12_code 66 = .ok (.iload 4, 2) := by decide +kernel
theorem d_Model_read_68 : decode prog_11_method_12_code 68 = .ok (.iload_n 1, 1) := by decide +kernel
theorem d_Model_read_69 : decode prog_11_method_12_code 69 = .ok (.if_icmp .ge 30, 3) := by decide +kernel
theorem d_Model_read_72 : decode prog_11_method_12_code 72 = .ok (.iload 4, 2) := by decide +kernel
theorem d_Model_read_74 : decode prog_11_method_12_code 74 = .ok (.iload_n 3, 1) := by decide +kernel
theorem d_Model_read_75 : decode prog_11_method_12_code 75 = .ok (.if_icmp .le 24, 3) := by decide +kernel
theorem d_Model_read_78 : decode prog_11_method_12_code 78 = .ok (.aload_n 0, 1) := by decide +kernel
theorem d_Model_read_79 : decode prog_11_method_12_code 79 = .ok (.getfield 13, 3) := by decide +kernel
theorem d_Model_read_82 : decode prog_11_method_12_code 82 = .ok (.iload 4, 2) := by decide +kernel
theorem d_Model_read_84 : decode prog_11_method_12_code 84 = .ok (.iconst 1, 1) := by decide +kernel
theorem d_Model_read_85 : decode prog_11_method_12_code 85 = .ok (.isub, 1) := by decide +kernel
theorem d_Model_read_86 : decode prog_11_method_12_code 86 = .ok (.iaload, 1) := by decide +kernel
theorem d_Model_read_87 : decode prog_11_method_12_code 87 = .ok (.bipush 13, 2) := by decide +kernel
theorem d_Model_read_89 : decode prog_11_method_12_code 89 = .ok (.if_icmp .ne 10, 3) := by decide +kernel
theorem d_Model_read_92 : decode prog_11_method_12_code 92 = .ok (.iload 4, 2) := by decide +kernel
theorem d_Model_read_94 : decode prog_11_method_12_code 94 = .ok (.iconst 1, 1) := by decide +kernel
theorem d_Model_read_95 : decode prog_11_method_12_code 95 = .ok (.isub, 1) := by decide +kernel
theorem d_Model_read_96 : decode prog_11_method_12_code 96 = .ok (.goto 5, 3) := by decide +kernel
theorem d_Model_read_99 : decode prog_11_method_12_code 99 = .ok (.iload 4, 2) := by decide +kernel
theorem d_Model_read_101 : decode prog_11_method_12_code 101 = .ok (.istore 5, 2) := by decide +kernel
theorem d_Model_read_103 : decode prog_11_method_12_code 103 = .ok (.aload_n 0, 1) := by decide +kernel
theorem d_Model_read_104 : decode prog_11_method_12_code 104 = .ok (.iload_n 3, 1) := by decide +kernel
theorem d_Model_read_105 : decode prog_11_method_12_code 105 = .ok (.iload 5, 2) := by decide +kernel
theorem d_Model_read_107 : decode prog_11_method_12_code 107 = .ok (.invokevirtual 125, 3) := by decide +kernel
theorem d_Model_read_110 : decode prog_11_method_12_code 110 = .ok (.istore 6, 2) := by decide +kernel
theorem d_Model_read_112 : decode prog_11_method_12_code 112 = .ok (.iload 5, 2) := by decide +kernel
theorem d_Model_read_114 : decode prog_11_method_12_code 114 = .ok (.iload_n 3, 1) := by decide +kernel
theorem d_Model_read_115 : decode prog_11_method_12_code 115 = .ok (.if_icmp .le 60, 3) := by decide +kernel
theorem d_Model_read_118 : decode prog_11_method_12_code 118 = .ok (.aload_n 0, 1) := by decide +kernel
theorem d_Model_read_119 : decode prog_11_method_12_code 119 = .ok (.getfield 13, 3) := by decide +kernel
theorem d_Model_read_122 : decode prog_11_method_12_code 122 = .ok (.iload_n 3, 1) := by decide +kernel
theorem d_Model_read_123 : decode prog_11_method_12_code 123 = .ok (.iaload, 1) := by decide +kernel
theorem d_Model_read_124 : decode prog_11_method_12_code 124 = .ok (.invokestatic 109, 3) := by decide +kernel
theorem d_Model_read_127 : decode prog_11_method_12_code 127 = .ok (.ifCond .eq 48, 3) := by decide +kernel
theorem d_Model_read_130 : decode prog_11_method_12_code 130 = .ok (.iload_n 2, 1) := by decide +kernel
theorem d_Model_read_131 : decode prog_11_method_12_code 131 = .ok (.ifCond .eq 31, 3) := by decide +kernel
theorem d_Model_read_134 : decode prog_11_method_12_code 134 = .ok (.aload_n 0, 1) := by decide +kernel
theorem d_Model_read_135 : decode prog_11_method_12_code 135 = .ok (.iload_n 3, 1) := by decide +kernel
theorem d_Model_read_136 : decode prog_11_method_12_code 136 = .ok (.iload 5, 2) := by decide +kernel
theorem d_Model_read_138 : decode prog_11_method_12_code 138 = .ok (.invokevirtual 119, 3) := by decide +kernel
theorem d_Model_read_141 : decode prog_11_method_12_code 141 = .ok (.aload_n 0, 1) := by decide +kernel
theorem d_Model_read_142 : decode prog_11_method_12_code 142 = .ok (.getfield 25, 3) := by decide +kernel
theorem d_Model_read_145 : decode prog_11_method_12_code 145 = .ok (.aload_n 0, 1) := by decide +kernel
theorem d_Model_read_146 : decode prog_11_method_12_code 146 = .ok (.getfield 116, 3) := by decide +kernel
theorem d_Model_read_149 : decode prog_11_method_12_code 149 = .ok (.iconst 1, 1) := by decide +kernel
theorem d_Model_read_150 : decode prog_11_method_12_code 150 = .ok (.isub, 1) := by decide +kernel
theorem d_Model_read_151 : decode prog_11_method_12_code 151 = .ok (.dup2, 1) := by decide +kernel
theorem d_Model_read_152 : decode prog_11_method_12_code 152 = .ok (.iaload, 1) := by decide +kernel
theorem d_Model_read_153 : decode prog_11_method_12_code 153 = .ok (.iload 5, 2) := by decide +kernel
theorem d_Model_read_155 : decode prog_11_method_12_code 155 = .ok (.iload_n 3, 1) := by decide +kernel
theorem d_Model_read_156 : decode prog_11_method_12_code 156 = .ok (.isub, 1) := by decide +kernel
theorem d_Model_read_157 : decode prog_11_method_12_code 157 = .ok (.iadd, 1) := by decide +kernel
theorem d_Model_read_158 : decode prog_11_method_12_code 158 = .ok (.iastore, 1) := by decide +kernel
theorem d_Model_read_159 : decode prog_11_method_12_code 159 = .ok (.goto 62, 3) := by decide +kernel
theorem d_Model_read_162 : decode prog_11_method_12_code 162 = .ok (.aload_n 0, 1) := by decide +kernel
theorem d_Model_read_163 : decode prog_11_method_12_code 163 = .ok (.dup, 1) := by decide +kernel
theorem d_Model_read_164 : decode prog_11_method_12_code 164 = .ok (.getfield 122, 3) := by decide +kernel
theorem d_Model_read_167 : decode prog_11_method_12_code 167 = .ok (.iconst 1, 1) := by decide +kernel
theorem d_Model_read_168 : decode prog_11_method_12_code 168 = .ok (.iadd, 1) := by decide +kernel
theorem d_Model_read_169 : decode prog_11_method_12_code 169 = .ok (.putfield 122, 3) := by decide +kernel
theorem d_Model_read_172 : decode prog_11_method_12_code 172 = .ok (.goto 49, 3) := by decide +kernel
theorem d_Model_read_175 : decode prog_11_method_12_code 175 = .ok (.iload 6, 2) := by decide +kernel
theorem d_Model_read_177 : decode prog_11_method_12_code 177 = .ok (.iconst (-1), 1) := by decide +kernel
theorem d_Model_read_178 : decode prog_11_method_12_code 178 = .ok (.if_icmp .ne 18, 3) := by decide +kernel
theorem d_Model_read_181 : decode prog_11_method_12_code 181 = .ok (.aload_n 0, 1) := by decide +kernel
theorem d_Model_read_182 : decode prog_11_method_12_code 182 = .ok (.dup, 1) := by decide +kernel
theorem d_Model_read_183 : decode prog_11_method_12_code 183 = .ok (.getfield 122, 3) := by decide +kernel
theorem d_Model_read_186 : decode prog_11_method_12_code 186 = .ok (.iconst 1, 1) := by decide +kernel
theorem d_Model_read_187 : decode prog_11_method_12_code 187 = .ok (.iadd, 1) := by decide +kernel
theorem d_Model_read_188 : decode prog_11_method_12_code 188 = .ok (.putfield 122, 3) := by decide +kernel
theorem d_Model_read_191 : decode prog_11_method_12_code 191 = .ok (.iconst 0, 1) := by decide +kernel
theorem d_Model_read_192 : decode prog_11_method_12_code 192 = .ok (.istore_n 2, 1) := by decide +kernel
theorem d_Model_read_193 : decode prog_11_method_12_code 193 = .ok (.goto 28, 3) := by decide +kernel
theorem d_Model_read_196 : decode prog_11_method_12_code 196 = .ok (.aload_n 0, 1) := by decide +kernel
theorem d_Model_read_197 : decode prog_11_method_12_code 197 = .ok (.getfield 116, 3) := by decide +kernel
theorem d_Model_read_200 : decode prog_11_method_12_code 200 = .ok (.bipush 40, 2) := by decide +kernel
theorem d_Model_read_202 : decode prog_11_method_12_code 202 = .ok (.if_icmp .ne 8, 3) := by decide +kernel
theorem d_Model_read_205 : decode prog_11_method_12_code 205 = .ok (.aload_n 0, 1) := by decide +kernel
theorem d_Model_read_206 : decode prog_11_method_12_code 206 = .ok (.getfield 116, 3) := by decide +kernel
theorem d_Model_read_209 : decode prog_11_method_12_code 209 = .ok (.ireturn, 1) := by decide +kernel
theorem d_Model_read_210 : decode prog_11_method_12_code 210 = .ok (.aload_n 0, 1) := by decide +kernel
theorem d_Model_read_211 : decode prog_11_method_12_code 211 = .ok (.iload_n 3, 1) := by decide +kernel
theorem d_Model_read_212 : decode prog_11_method_12_code 212 = .ok (.iload 6, 2) := by decide +kernel
theorem d_Model_read_214 : decode prog_11_method_12_code 214 = .ok (.iload 5, 2) := by decide +kernel
theorem d_Model_read_216 : decode prog_11_method_12_code 216 = .ok (.invokevirtual 129, 3) := by decide +kernel
theorem d_Model_read_219 : decode prog_11_method_12_code 219 = .ok (.iconst 1, 1) := by decide +kernel
theorem d_Model_read_220 : decode prog_11_method_12_code 220 = .ok (.istore_n 2, 1) := by decide +kernel
theorem d_Model_read_221 : decode prog_11_method_12_code 221 = .ok (.iload 4, 2) := by decide +kernel
theorem d_Model_read_223 : decode prog_11_method_12_code 223 = .ok (.iconst 1, 1) := by decide +kernel
theorem d_Model_read_224 : decode prog_11_method_12_code 224 = .ok (.iadd, 1) := by decide +kernel
theorem d_Model_read_225 : decode prog_11_method_12_code 225 = .ok (.istore_n 3, 1) := by decide +kernel
theorem d_Model_read_226 : decode prog_11_method_12_code 226 = .ok (.goto (-192), 3) := by decide +kernel
theorem d_Model_read_229 : decode prog_11_method_12_code 229 = .ok (.aload_n 0, 1) := by decide +kernel
theorem d_Model_read_230 : decode prog_11_method_12_code 230 = .ok (.getfield 116, 3) := by decide +kernel
theorem d_Model_read_233 : decode prog_11_method_12_code 233 = .ok (.ireturn, 1) := by decide +kernel
theorem d_Model_bad_0 : decode prog_11_method_13_code 0 = .ok (.aload_n 0, 1) := by decide +kernel
theorem d_Model_bad_1 : decode prog_11_method_13_code 1 = .ok (.iconst 0, 1) := by decide +kernel
theorem d_Model_bad_2 : decode prog_11_method_13_code 2 = .ok (.putfield 99, 3) := by decide +kernel
theorem d_Model_bad_5 : decode prog_11_method_13_code 5 = .ok (.aload_n 0, 1) := by decide +kernel
theorem d_Model_bad_6 : decode prog_11_method_13_code 6 = .ok (.getfield 122, 3) := by decide +kernel
theorem d_Model_bad_9 : decode prog_11_method_13_code 9 = .ok (.ireturn, 1) := by decide +kernel
theorem d_Model_group_0 : decode prog_11_method_49_code 0 = .ok (.aload_n 0, 1) := by decide +kernel
theorem d_Model_group_1 : decode prog_11_method_49_code 1 = .ok (.iconst 0, 1) := by decide +kernel
theorem d_Model_group_2 : decode prog_11_method_49_code 2 = .ok (.putfield 99, 3) := by decide +kernel
theorem d_Model_group_5 : decode prog_11_method_49_code 5 = .ok (.iload_n 1, 1) := by decide +kernel
theorem d_Model_group_6 : decode prog_11_method_49_code 6 = .ok (.ifCond .ne 8, 3) := by decide +kernel
theorem d_Model_group_9 : decode prog_11_method_49_code 9 = .ok (.aload_n 0, 1) := by decide +kernel
theorem d_Model_group_10 : decode prog_11_method_49_code 10 = .ok (.getfield 248, 3) := by decide +kernel
theorem d_Model_group_13 : decode prog_11_method_49_code 13 = .ok (.ireturn, 1) := by decide +kernel
theorem d_Model_group_14 : decode prog_11_method_49_code 14 = .ok (.iload_n 1, 1) := by decide +kernel
theorem d_Model_group_15 : decode prog_11_method_49_code 15 = .ok (.iconst 1, 1) := by decide +kernel
theorem d_Model_group_16 : decode prog_11_method_49_code 16 = .ok (.if_icmp .ne 8, 3) := by decide +kernel
theorem d_Model_group_19 : decode prog_11_method_49_code 19 = .ok (.aload_n 0, 1) := by decide +kernel
theorem d_Model_group_20 : decode prog_11_method_49_code 20 = .ok (.getfield 227, 3) := by decide +kernel
theorem d_Model_group_23 : decode prog_11_method_49_code 23 = .ok (.ireturn, 1) := by decide +kernel
theorem d_Model_group_24 : decode prog_11_method_49_code 24 = .ok (.iload_n 1, 1) := by decide +kernel
theorem d_Model_group_25 : decode prog_11_method_49_code 25 = .ok (.iconst 2, 1) := by decide +kernel
theorem d_Model_group_26 : decode prog_11_method_49_code 26 = .ok (.if_icmp .ne 17, 3) := by decide +kernel
theorem d_Model_group_29 : decode prog_11_method_49_code 29 = .ok (.iload_n 2, 1) := by decide +kernel
theorem d_Model_group_30 : decode prog_11_method_49_code 30 = .ok (.ifCond .lt 13, 3) := by decide +kernel
theorem d_Model_group_33 : decode prog_11_method_49_code 33 = .ok (.iload_n 2, 1) := by decide +kernel
theorem d_Model_group_34 : decode prog_11_method_49_code 34 = .ok (.aload_n 0, 1) := by decide +kernel
theorem d_Model_group_35 : decode prog_11_method_49_code 35 = .ok (.getfield 52, 3) := by decide +kernel
theorem d_Model_group_38 : decode prog_11_method_49_code 38 = .ok (.iconst 1, 1) := by decide +kernel
theorem d_Model_group_39 : decode prog_11_method_49_code 39 = .ok (.iaload, 1) := by decide +kernel
theorem d_Model_group_40 : decode prog_11_method_49_code 40 = .ok (.if_icmp .lt 7, 3) := by decide +kernel
theorem d_Model_group_43 : decode prog_11_method_49_code 43 = .ok (.iconst (-1), 1) := by decide +kernel
theorem d_Model_group_44 : decode prog_11_method_49_code 44 = .ok (.goto 9, 3) := by decide +kernel
theorem d_Model_group_47 : decode prog_11_method_49_code 47 = .ok (.aload_n 0, 1) := by decide +kernel
theorem d_Model_group_48 : decode prog_11_method_49_code 48 = .ok (.getfield 61, 3) := by decide +kernel
theorem d_Model_group_51 : decode prog_11_method_49_code 51 = .ok (.iload_n 2, 1) := by decide +kernel
theorem d_Model_group_52 : decode prog_11_method_49_code 52 = .ok (.iaload, 1) := by decide +kernel
theorem d_Model_group_53 : decode prog_11_method_49_code 53 = .ok (.ireturn, 1) := by decide +kernel
