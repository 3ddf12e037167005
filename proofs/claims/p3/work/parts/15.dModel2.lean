theorem d_Model_makeComment_50 : decode prog_11_method_44_code 50 = .ok (.invokevirtual 207, 3) := by decide +kernel
theorem d_Model_makeComment_53 : decode prog_11_method_44_code 53 = .ok (.aload_n 0, 1) := by decide +kernel
theorem d_Model_makeComment_54 : decode prog_11_method_44_code 54 = .ok (.iconst 0, 1) := by decide +kernel
theorem d_Model_makeComment_55 : decode prog_11_method_44_code 55 = .ok (.invokevirtual 210, 3) := by decide +kernel
theorem d_Model_makeComment_58 : decode prog_11_method_44_code 58 = .ok (.return_, 1) := by decide +kernel
theorem d_Model_takeMailbox_0 : decode prog_11_method_46_code 0 = .ok (.aload_n 0, 1) := by decide +kernel
theorem d_Model_takeMailbox_1 : decode prog_11_method_46_code 1 = .ok (.iload_n 1, 1) := by decide +kernel
theorem d_Model_takeMailbox_2 : decode prog_11_method_46_code 2 = .ok (.iload_n 2, 1) := by decide +kernel
theorem d_Model_takeMailbox_3 : decode prog_11_method_46_code 3 = .ok (.invokevirtual 197, 3) := by decide +kernel
theorem d_Model_takeMailbox_6 : decode prog_11_method_46_code 6 = .ok (.iload_n 2, 1) := by decide +kernel
theorem d_Model_takeMailbox_7 : decode prog_11_method_46_code 7 = .ok (.if_icmp .ne 4, 3) := by decide +kernel
theorem d_Model_takeMailbox_10 : decode prog_11_method_46_code 10 = .ok (.return_, 1) := by decide +kernel
theorem d_Model_takeMailbox_11 : decode prog_11_method_46_code 11 = .ok (.iload_n 1, 1) := by decide +kernel
theorem d_Model_takeMailbox_12 : decode prog_11_method_46_code 12 = .ok (.istore 5, 2) := by decide +kernel
theorem d_Model_takeMailbox_14 : decode prog_11_method_46_code 14 = .ok (.iload 5, 2) := by decide +kernel
theorem d_Model_takeMailbox_16 : decode prog_11_method_46_code 16 = .ok (.iload_n 2, 1) := by decide +kernel
theorem d_Model_takeMailbox_17 : decode prog_11_method_46_code 17 = .ok (.if_icmp .ge 20, 3) := by decide +kernel
theorem d_Model_takeMailbox_20 : decode prog_11_method_46_code 20 = .ok (.aload_n 0, 1) := by decide +kernel
theorem d_Model_takeMailbox_21 : decode prog_11_method_46_code 21 = .ok (.iload 5, 2) := by decide +kernel
theorem d_Model_takeMailbox_23 : decode prog_11_method_46_code 23 = .ok (.bipush 60, 2) := by decide +kernel
theorem d_Model_takeMailbox_25 : decode prog_11_method_46_code 25 = .ok (.invokevirtual 200, 3) := by decide +kernel
theorem d_Model_takeMailbox_28 : decode prog_11_method_46_code 28 = .ok (.ifCond .ne 9, 3) := by decide +kernel
theorem d_Model_takeMailbox_31 : decode prog_11_method_46_code 31 = .ok (.iinc 5 1, 3) := by decide +kernel
theorem d_Model_takeMailbox_34 : decode prog_11_method_46_code 34 = .ok (.goto (-20), 3) := by decide +kernel
theorem d_Model_takeMailbox_37 : decode prog_11_method_46_code 37 = .ok (.iload_n 3, 1) := by decide +kernel
theorem d_Model_takeMailbox_38 : decode prog_11_method_46_code 38 = .ok (.ifCond .eq 14, 3) := by decide +kernel
theorem d_Model_takeMailbox_41 : decode prog_11_method_46_code 41 = .ok (.aload_n 0, 1) := by decide +kernel
theorem d_Model_takeMailbox_42 : decode prog_11_method_46_code 42 = .ok (.dup, 1) := by decide +kernel
theorem d_Model_takeMailbox_43 : decode prog_11_method_46_code 43 = .ok (.getfield 227, 3) := by decide +kernel
theorem d_Model_takeMailbox_46 : decode prog_11_method_46_code 46 = .ok (.iconst 1, 1) := by decide +kernel
theorem d_Model_takeMailbox_47 : decode prog_11_method_46_code 47 = .ok (.iadd, 1) := by decide +kernel
theorem d_Model_takeMailbox_48 : decode prog_11_method_46_code 48 = .ok (.putfield 227, 3) := by decide +kernel
theorem d_Model_takeMailbox_51 : decode prog_11_method_46_code 51 = .ok (.return_, 1) := by decide +kernel
theorem d_Model_takeMailbox_52 : decode prog_11_method_46_code 52 = .ok (.iload_n 1, 1) := by decide +kernel
theorem d_Model_takeMailbox_53 : decode prog_11_method_46_code 53 = .ok (.istore 6, 2) := by decide +kernel
theorem d_Model_takeMailbox_55 : decode prog_11_method_46_code 55 = .ok (.iload_n 2, 1) := by decide +kernel
theorem d_Model_takeMailbox_56 : decode prog_11_method_46_code 56 = .ok (.istore 7, 2) := by decide +kernel
theorem d_Model_takeMailbox_58 : decode prog_11_method_46_code 58 = .ok (.iconst 1, 1) := by decide +kernel
theorem d_Model_takeMailbox_59 : decode prog_11_method_46_code 59 = .ok (.istore 8, 2) := by decide +kernel
theorem d_Model_takeMailbox_61 : decode prog_11_method_46_code 61 = .ok (.iload 5, 2) := by decide +kernel
theorem d_Model_takeMailbox_63 : decode prog_11_method_46_code 63 = .ok (.iload_n 2, 1) := by decide +kernel
theorem d_Model_takeMailbox_64 : decode prog_11_method_46_code 64 = .ok (.if_icmp .ge 82, 3) := by decide +kernel
theorem d_Model_takeMailbox_67 : decode prog_11_method_46_code 67 = .ok (.iload 5, 2) := by decide +kernel
theorem d_Model_takeMailbox_69 : decode prog_11_method_46_code 69 = .ok (.istore 9, 2) := by decide +kernel
theorem d_Model_takeMailbox_71 : decode prog_11_method_46_code 71 = .ok (.aload_n 0, 1) := by decide +kernel
theorem d_Model_takeMailbox_72 : decode prog_11_method_46_code 72 = .ok (.iload 9, 2) := by decide +kernel
theorem d_Model_takeMailbox_74 : decode prog_11_method_46_code 74 = .ok (.bipush 62, 2) := by decide +kernel
theorem d_Model_takeMailbox_76 : decode prog_11_method_46_code 76 = .ok (.invokevirtual 200, 3) := by decide +kernel
theorem d_Model_takeMailbox_79 : decode prog_11_method_46_code 79 = .ok (.ifCond .ne 9, 3) := by decide +kernel
theorem d_Model_takeMailbox_82 : decode prog_11_method_46_code 82 = .ok (.iinc 9 1, 3) := by decide +kernel
theorem d_Model_takeMailbox_85 : decode prog_11_method_46_code 85 = .ok (.goto (-14), 3) := by decide +kernel
theorem d_Model_takeMailbox_88 : decode prog_11_method_46_code 88 = .ok (.aload_n 0, 1) := by decide +kernel
theorem d_Model_takeMailbox_89 : decode prog_11_method_46_code 89 = .ok (.iload 5, 2) := by decide +kernel
theorem d_Model_takeMailbox_91 : decode prog_11_method_46_code 91 = .ok (.iconst 1, 1) := by decide +kernel
theorem d_Model_takeMailbox_92 : decode prog_11_method_46_code 92 = .ok (.iadd, 1) := by decide +kernel
theorem d_Model_takeMailbox_93 : decode prog_11_method_46_code 93 = .ok (.iload 9, 2) := by decide +kernel
theorem d_Model_takeMailbox_95 : decode prog_11_method_46_code 95 = .ok (.invokevirtual 230, 3) := by decide +kernel
theorem d_Model_takeMailbox_98 : decode prog_11_method_46_code 98 = .ok (.istore 6, 2) := by decide +kernel
theorem d_Model_takeMailbox_100 : decode prog_11_method_46_code 100 = .ok (.iload 9, 2) := by decide +kernel
theorem d_Model_takeMailbox_102 : decode prog_11_method_46_code 102 = .ok (.istore 7, 2) := by decide +kernel
theorem d_Model_takeMailbox_104 : decode prog_11_method_46_code 104 = .ok (.aload_n 0, 1) := by decide +kernel
theorem d_Model_takeMailbox_105 : decode prog_11_method_46_code 105 = .ok (.iload 9, 2) := by decide +kernel
theorem d_Model_takeMailbox_107 : decode prog_11_method_46_code 107 = .ok (.iconst 1, 1) := by decide +kernel
theorem d_Model_takeMailbox_108 : decode prog_11_method_46_code 108 = .ok (.iadd, 1) := by decide +kernel
theorem d_Model_takeMailbox_109 : decode prog_11_method_46_code 109 = .ok (.iload_n 2, 1) := by decide +kernel
theorem d_Model_takeMailbox_110 : decode prog_11_method_46_code 110 = .ok (.invokevirtual 197, 3) := by decide +kernel
theorem d_Model_takeMailbox_113 : decode prog_11_method_46_code 113 = .ok (.iload_n 2, 1) := by decide +kernel
theorem d_Model_takeMailbox_114 : decode prog_11_method_46_code 114 = .ok (.if_icmp .ne 29, 3) := by decide +kernel
theorem d_Model_takeMailbox_117 : decode prog_11_method_46_code 117 = .ok (.aload_n 0, 1) := by decide +kernel
theorem d_Model_takeMailbox_118 : decode prog_11_method_46_code 118 = .ok (.iload_n 1, 1) := by decide +kernel
theorem d_Model_takeMailbox_119 : decode prog_11_method_46_code 119 = .ok (.iload 5, 2) := by decide +kernel
theorem d_Model_takeMailbox_121 : decode prog_11_method_46_code 121 = .ok (.invokevirtual 197, 3) := by decide +kernel
theorem d_Model_takeMailbox_124 : decode prog_11_method_46_code 124 = .ok (.iload 5, 2) := by decide +kernel
theorem d_Model_takeMailbox_126 : decode prog_11_method_46_code 126 = .ok (.if_icmp .eq 13, 3) := by decide +kernel
theorem d_Model_takeMailbox_129 : decode prog_11_method_46_code 129 = .ok (.aload_n 0, 1) := by decide +kernel
theorem d_Model_takeMailbox_130 : decode prog_11_method_46_code 130 = .ok (.iload_n 1, 1) := by decide +kernel
theorem d_Model_takeMailbox_131 : decode prog_11_method_46_code 131 = .ok (.iload 5, 2) := by decide +kernel
theorem d_Model_takeMailbox_133 : decode prog_11_method_46_code 133 = .ok (.invokevirtual 233, 3) := by decide +kernel
theorem d_Model_takeMailbox_136 : decode prog_11_method_46_code 136 = .ok (.ifCond .eq 7, 3) := by decide +kernel
theorem d_Model_takeMailbox_139 : decode prog_11_method_46_code 139 = .ok (.iconst 1, 1) := by decide +kernel
theorem d_Model_takeMailbox_140 : decode prog_11_method_46_code 140 = .ok (.goto 4, 3) := by decide +kernel
theorem d_Model_takeMailbox_143 : decode prog_11_method_46_code 143 = .ok (.iconst 0, 1) := by decide +kernel
theorem d_Model_takeMailbox_144 : decode prog_11_method_46_code 144 = .ok (.istore 8, 2) := by decide +kernel
theorem d_Model_takeMailbox_146 : decode prog_11_method_46_code 146 = .ok (.iload 8, 2) := by decide +kernel
theorem d_Model_takeMailbox_148 : decode prog_11_method_46_code 148 = .ok (.ifCond .eq 14, 3) := by decide +kernel
theorem d_Model_takeMailbox_151 : decode prog_11_method_46_code 151 = .ok (.aload_n 0, 1) := by decide +kernel
theorem d_Model_takeMailbox_152 : decode prog_11_method_46_code 152 = .ok (.iload 6, 2) := by decide +kernel
theorem d_Model_takeMailbox_154 : decode prog_11_method_46_code 154 = .ok (.iload 7, 2) := by decide +kernel
theorem d_Model_takeMailbox_156 : decode prog_11_method_46_code 156 = .ok (.invokevirtual 236, 3) := by decide +kernel
theorem d_Model_takeMailbox_159 : decode prog_11_method_46_code 159 = .ok (.ifCond .ne 14, 3) := by decide +kernel
theorem d_Model_takeMailbox_162 : decode prog_11_method_46_code 162 = .ok (.aload_n 0, 1) := by decide +kernel
theorem d_Model_takeMailbox_163 : decode prog_11_method_46_code 163 = .ok (.dup, 1) := by decide +kernel
theorem d_Model_takeMailbox_164 : decode prog_11_method_46_code 164 = .ok (.getfield 227, 3) := by decide +kernel
theorem d_Model_takeMailbox_167 : decode prog_11_method_46_code 167 = .ok (.iconst 1, 1) := by decide +kernel
theorem d_Model_takeMailbox_168 : decode prog_11_method_46_code 168 = .ok (.iadd, 1) := by decide +kernel
theorem d_Model_takeMailbox_169 : decode prog_11_method_46_code 169 = .ok (.putfield 227, 3) := by decide +kernel
theorem d_Model_takeMailbox_172 : decode prog_11_method_46_code 172 = .ok (.return_, 1) := by decide +kernel
theorem d_Model_takeMailbox_173 : decode prog_11_method_46_code 173 = .ok (.aload_n 0, 1) := by decide +kernel
theorem d_Model_takeMailbox_174 : decode prog_11_method_46_code 174 = .ok (.getfield 221, 3) := by decide +kernel
theorem d_Model_takeMailbox_177 : decode prog_11_method_46_code 177 = .ok (.istore 9, 2) := by decide +kernel
theorem d_Model_takeMailbox_179 : decode prog_11_method_46_code 179 = .ok (.aload_n 0, 1) := by decide +kernel
theorem d_Model_takeMailbox_180 : decode prog_11_method_46_code 180 = .ok (.getfield 224, 3) := by decide +kernel
theorem d_Model_takeMailbox_183 : decode prog_11_method_46_code 183 = .ok (.istore 10, 2) := by decide +kernel
theorem d_Model_takeMailbox_185 : decode prog_11_method_46_code 185 = .ok (.iload 5, 2) := by decide +kernel
theorem d_Model_takeMailbox_187 : decode prog_11_method_46_code 187 = .ok (.iload_n 2, 1) := by decide +kernel
theorem d_Model_takeMailbox_188 : decode prog_11_method_46_code 188 = .ok (.if_icmp .ge 26, 3) := by decide +kernel
theorem d_Model_takeMailbox_191 : decode prog_11_method_46_code 191 = .ok (.aload_n 0, 1) := by decide +kernel
theorem d_Model_takeMailbox_192 : decode prog_11_method_46_code 192 = .ok (.iload_n 1, 1) := by decide +kernel
theorem d_Model_takeMailbox_193 : decode prog_11_method_46_code 193 = .ok (.iload 5, 2) := by decide +kernel
theorem d_Model_takeMailbox_195 : decode prog_11_method_46_code 195 = .ok (.invokevirtual 197, 3) := by decide +kernel
theorem d_Model_takeMailbox_198 : decode prog_11_method_46_code 198 = .ok (.iload 5, 2) := by decide +kernel
theorem d_Model_takeMailbox_200 : decode prog_11_method_46_code 200 = .ok (.if_icmp .ge 14, 3) := by decide +kernel
theorem d_Model_takeMailbox_203 : decode prog_11_method_46_code 203 = .ok (.aload_n 0, 1) := by decide +kernel
theorem d_Model_takeMailbox_204 : decode prog_11_method_46_code 204 = .ok (.iconst 0, 1) := by decide +kernel
theorem d_Model_takeMailbox_205 : decode prog_11_method_46_code 205 = .ok (.iload_n 1, 1) := by decide +kernel
theorem d_Model_takeMailbox_206 : decode prog_11_method_46_code 206 = .ok (.iload 5, 2) := by decide +kernel
theorem d_Model_takeMailbox_208 : decode prog_11_method_46_code 208 = .ok (.invokevirtual 239, 3) := by decide +kernel
theorem d_Model_takeMailbox_211 : decode prog_11_method_46_code 211 = .ok (.goto 9, 3) := by decide +kernel
theorem d_Model_takeMailbox_214 : decode prog_11_method_46_code 214 = .ok (.aload_n 0, 1) := by decide +kernel
theorem d_Model_takeMailbox_215 : decode prog_11_method_46_code 215 = .ok (.iload_n 1, 1) := by decide +kernel
theorem d_Model_takeMailbox_216 : decode prog_11_method_46_code 216 = .ok (.iload_n 2, 1) := by decide +kernel
theorem d_Model_takeMailbox_217 : decode prog_11_method_46_code 217 = .ok (.invokevirtual 242, 3) := by decide +kernel
theorem d_Model_takeMailbox_220 : decode prog_11_method_46_code 220 = .ok (.aload_n 0, 1) := by decide +kernel
theorem d_Model_takeMailbox_221 : decode prog_11_method_46_code 221 = .ok (.getfield 61, 3) := by decide +kernel
theorem d_Model_takeMailbox_224 : decode prog_11_method_46_code 224 = .ok (.aload_n 0, 1) := by decide +kernel
theorem d_Model_takeMailbox_225 : decode prog_11_method_46_code 225 = .ok (.getfield 52, 3) := by decide +kernel
theorem d_Model_takeMailbox_228 : decode prog_11_method_46_code 228 = .ok (.iconst 1, 1) := by decide +kernel
theorem d_Model_takeMailbox_229 : decode prog_11_method_46_code 229 = .ok (.iaload, 1) := by decide +kernel
theorem d_Model_takeMailbox_230 : decode prog_11_method_46_code 230 = .ok (.iload 4, 2) := by decide +kernel
theorem d_Model_takeMailbox_232 : decode prog_11_method_46_code 232 = .ok (.iastore, 1) := by decide +kernel
theorem d_Model_takeMailbox_233 : decode prog_11_method_46_code 233 = .ok (.aload_n 0, 1) := by decide +kernel
theorem d_Model_takeMailbox_234 : decode prog_11_method_46_code 234 = .ok (.iconst 1, 1) := by decide +kernel
theorem d_Model_takeMailbox_235 : decode prog_11_method_46_code 235 = .ok (.iload 6, 2) := by decide +kernel
theorem d_Model_takeMailbox_237 : decode prog_11_method_46_code 237 = .ok (.iload 9, 2) := by decide +kernel
theorem d_Model_takeMailbox_239 : decode prog_11_method_46_code 239 = .ok (.invokevirtual 245, 3) := by decide +kernel
theorem d_Model_takeMailbox_242 : decode prog_11_method_46_code 242 = .ok (.aload_n 0, 1) := by decide +kernel
theorem d_Model_takeMailbox_243 : decode prog_11_method_46_code 243 = .ok (.iconst 2, 1) := by decide +kernel
theorem d_Model_takeMailbox_244 : decode prog_11_method_46_code 244 = .ok (.iload 10, 2) := by decide +kernel
theorem d_Model_takeMailbox_246 : decode prog_11_method_46_code 246 = .ok (.iload 7, 2) := by decide +kernel
theorem d_Model_takeMailbox_248 : decode prog_11_method_46_code 248 = .ok (.invokevirtual 245, 3) := by decide +kernel
theorem d_Model_takeMailbox_251 : decode prog_11_method_46_code 251 = .ok (.return_, 1) := by decide +kernel
theorem d_Model_beginGroup_0 : decode prog_11_method_47_code 0 = .ok (.aload_n 0, 1) := by decide +kernel
theorem d_Model_beginGroup_1 : decode prog_11_method_47_code 1 = .ok (.iload_n 1, 1) := by decide +kernel
theorem d_Model_beginGroup_2 : decode prog_11_method_47_code 2 = .ok (.iload_n 2, 1) := by decide +kernel
theorem d_Model_beginGroup_3 : decode prog_11_method_47_code 3 = .ok (.invokevirtual 233, 3) := by decide +kernel
theorem d_Model_beginGroup_6 : decode prog_11_method_47_code 6 = .ok (.istore_n 3, 1) := by decide +kernel
theorem d_Model_beginGroup_7 : decode prog_11_method_47_code 7 = .ok (.iload_n 3, 1) := by decide +kernel
theorem d_Model_beginGroup_8 : decode prog_11_method_47_code 8 = .ok (.ifCond .ne 23, 3) := by decide +kernel
theorem d_Model_beginGroup_11 : decode prog_11_method_47_code 11 = .ok (.aload_n 0, 1) := by decide +kernel
theorem d_Model_beginGroup_12 : decode prog_11_method_47_code 12 = .ok (.iload_n 1, 1) := by decide +kernel
theorem d_Model_beginGroup_13 : decode prog_11_method_47_code 13 = .ok (.iload_n 2, 1) := by decide +kernel
theorem d_Model_beginGroup_14 : decode prog_11_method_47_code 14 = .ok (.invokevirtual 197, 3) := by decide +kernel
theorem d_Model_beginGroup_17 : decode prog_11_method_47_code 17 = .ok (.iload_n 2, 1) := by decide +kernel
theorem d_Model_beginGroup_18 : decode prog_11_method_47_code 18 = .ok (.if_icmp .ge 13, 3) := by decide +kernel
theorem d_Model_beginGroup_21 : decode prog_11_method_47_code 21 = .ok (.aload_n 0, 1) := by decide +kernel
theorem d_Model_beginGroup_22 : decode prog_11_method_47_code 22 = .ok (.dup, 1) := by decide +kernel
theorem d_Model_beginGroup_23 : decode prog_11_method_47_code 23 = .ok (.getfield 227, 3) := by decide +kernel
theorem d_Model_beginGroup_26 : decode prog_11_method_47_code 26 = .ok (.iconst 1, 1) := by decide +kernel
theorem d_Model_beginGroup_27 : decode prog_11_method_47_code 27 = .ok (.iadd, 1) := by decide +kernel
theorem d_Model_beginGroup_28 : decode prog_11_method_47_code 28 = .ok (.putfield 227, 3) := by decide +kernel
theorem d_Model_beginGroup_31 : decode prog_11_method_47_code 31 = .ok (.iload_n 3, 1) := by decide +kernel
theorem d_Model_beginGroup_32 : decode prog_11_method_47_code 32 = .ok (.ifCond .eq 13, 3) := by decide +kernel
theorem d_Model_beginGroup_35 : decode prog_11_method_47_code 35 = .ok (.aload_n 0, 1) := by decide +kernel
theorem d_Model_beginGroup_36 : decode prog_11_method_47_code 36 = .ok (.iconst 3, 1) := by decide +kernel
theorem d_Model_beginGroup_37 : decode prog_11_method_47_code 37 = .ok (.iload_n 1, 1) := by decide +kernel
theorem d_Model_beginGroup_38 : decode prog_11_method_47_code 38 = .ok (.iload_n 2, 1) := by decide +kernel
theorem d_Model_beginGroup_39 : decode prog_11_method_47_code 39 = .ok (.invokevirtual 239, 3) := by decide +kernel
theorem d_Model_beginGroup_42 : decode prog_11_method_47_code 42 = .ok (.goto 13, 3) := by decide +kernel
theorem d_Model_beginGroup_45 : decode prog_11_method_47_code 45 = .ok (.aload_n 0, 1) := by decide +kernel
theorem d_Model_beginGroup_46 : decode prog_11_method_47_code 46 = .ok (.iconst 3, 1) := by decide +kernel
theorem d_Model_beginGroup_47 : decode prog_11_method_47_code 47 = .ok (.invokevirtual 204, 3) := by decide +kernel
theorem d_Model_beginGroup_50 : decode prog_11_method_47_code 50 = .ok (.aload_n 0, 1) := by decide +kernel
theorem d_Model_beginGroup_51 : decode prog_11_method_47_code 51 = .ok (.iconst 3, 1) := by decide +kernel
theorem d_Model_beginGroup_52 : decode prog_11_method_47_code 52 = .ok (.invokevirtual 210, 3) := by decide +kernel
theorem d_Model_beginGroup_55 : decode prog_11_method_47_code 55 = .ok (.aload_n 0, 1) := by decide +kernel
theorem d_Model_beginGroup_56 : decode prog_11_method_47_code 56 = .ok (.dup, 1) := by decide +kernel
theorem d_Model_beginGroup_57 : decode prog_11_method_47_code 57 = .ok (.getfield 248, 3) := by decide +kernel
theorem d_Model_beginGroup_60 : decode prog_11_method_47_code 60 = .ok (.iconst 1, 1) := by decide +kernel
theorem d_Model_beginGroup_61 : decode prog_11_method_47_code 61 = .ok (.iadd, 1) := by decide +kernel
theorem d_Model_beginGroup_62 : decode prog_11_method_47_code 62 = .ok (.putfield 248, 3) := by decide +kernel
theorem d_Model_beginGroup_65 : decode prog_11_method_47_code 65 = .ok (.return_, 1) := by decide +kernel
theorem d_Model_isSign_0 : decode prog_11_method_23_code 0 = .ok (.iload_n 1, 1) := by decide +kernel
theorem d_Model_isSign_1 : decode prog_11_method_23_code 1 = .ok (.bipush 60, 2) := by decide +kernel
theorem d_Model_isSign_3 : decode prog_11_method_23_code 3 = .ok (.if_icmp .eq 51, 3) := by decide +kernel
theorem d_Model_isSign_6 : decode prog_11_method_23_code 6 = .ok (.iload_n 1, 1) := by decide +kernel
theorem d_Model_isSign_7 : decode prog_11_method_23_code 7 = .ok (.bipush 62, 2) := by decide +kernel
theorem d_Model_isSign_9 : decode prog_11_method_23_code 9 = .ok (.if_icmp .eq 45, 3) := by decide +kernel
theorem d_Model_isSign_12 : decode prog_11_method_23_code 12 = .ok (.iload_n 1, 1) := by decide +kernel
theorem d_Model_isSign_13 : decode prog_11_method_23_code 13 = .ok (.bipush 58, 2) := by decide +kernel
theorem d_Model_isSign_15 : decode prog_11_method_23_code 15 = .ok (.if_icmp .eq 39, 3) := by decide +kernel
theorem d_Model_isSign_18 : decode prog_11_method_23_code 18 = .ok (.iload_n 1, 1) := by decide +kernel
theorem d_Model_isSign_19 : decode prog_11_method_23_code 19 = .ok (.bipush 59, 2) := by decide +kernel
theorem d_Model_isSign_21 : decode prog_11_method_23_code 21 = .ok (.if_icmp .eq 33, 3) := by decide +kernel
theorem d_Model_isSign_24 : decode prog_11_method_23_code 24 = .ok (.iload_n 1, 1) := by decide +kernel
theorem d_Model_isSign_25 : decode prog_11_method_23_code 25 = .ok (.bipush 64, 2) := by decide +kernel
theorem d_Model_isSign_27 : decode prog_11_method_23_code 27 = .ok (.if_icmp .eq 27, 3) := by decide +kernel
theorem d_Model_isSign_30 : decode prog_11_method_23_code 30 = .ok (.iload_n 1, 1) := by decide +kernel
theorem d_Model_isSign_31 : decode prog_11_method_23_code 31 = .ok (.bipush 44, 2) := by decide +kernel
theorem d_Model_isSign_33 : decode prog_11_method_23_code 33 = .ok (.if_icmp .eq 21, 3) := by decide +kernel
theorem d_Model_isSign_36 : decode prog_11_method_23_code 36 = .ok (.iload_n 1, 1) := by decide +kernel
theorem d_Model_isSign_37 : decode prog_11_method_23_code 37 = .ok (.bipush 41, 2) := by decide +kernel
theorem d_Model_isSign_39 : decode prog_11_method_23_code 39 = .ok (.if_icmp .eq 15, 3) := by decide +kernel
theorem d_Model_isSign_42 : decode prog_11_method_23_code 42 = .ok (.iload_n 1, 1) := by decide +kernel
theorem d_Model_isSign_43 : decode prog_11_method_23_code 43 = .ok (.bipush 93, 2) := by decide +kernel
theorem d_Model_isSign_45 : decode prog_11_method_23_code 45 = .ok (.if_icmp .eq 9, 3) := by decide +kernel
theorem d_Model_isSign_48 : decode prog_11_method_23_code 48 = .ok (.iload_n 1, 1) := by decide +kernel
theorem d_Model_isSign_49 : decode prog_11_method_23_code 49 = .ok (.bipush 92, 2) := by decide +kernel
theorem d_Model_isSign_51 : decode prog_11_method_23_code 51 = .ok (.if_icmp .ne 5, 3) := by decide +kernel
theorem d_Model_isSign_54 : decode prog_11_method_23_code 54 = .ok (.iconst 1, 1) := by decide +kernel
theorem d_Model_isSign_55 : decode prog_11_method_23_code 55 = .ok (.ireturn, 1) := by decide +kernel
theorem d_Model_isSign_56 : decode prog_11_method_23_code 56 = .ok (.aload_n 0, 1) := by decide +kernel
theorem d_Model_isSign_57 : decode prog_11_method_23_code 57 = .ok (.getfield 165, 3) := by decide +kernel
theorem d_Model_isSign_60 : decode prog_11_method_23_code 60 = .ok (.ifCond .eq 23, 3) := by decide +kernel
theorem d_Model_isSign_63 : decode prog_11_method_23_code 63 = .ok (.iload_n 1, 1) := by decide +kernel
theorem d_Model_isSign_64 : decode prog_11_method_23_code 64 = .ok (.bipush 61, 2) := by decide +kernel
theorem d_Model_isSign_66 : decode prog_11_method_23_code 66 = .ok (.if_icmp .eq 9, 3) := by decide +kernel
theorem d_Model_isSign_69 : decode prog_11_method_23_code 69 = .ok (.iload_n 1, 1) := by decide +kernel
theorem d_Model_isSign_70 : decode prog_11_method_23_code 70 = .ok (.bipush 47, 2) := by decide +kernel
theorem d_Model_isSign_72 : decode prog_11_method_23_code 72 = .ok (.if_icmp .ne 7, 3) := by decide +kernel
theorem d_Model_isSign_75 : decode prog_11_method_23_code 75 = .ok (.iconst 1, 1) := by decide +kernel
theorem d_Model_isSign_76 : decode prog_11_method_23_code 76 = .ok (.goto 18, 3) := by decide +kernel
theorem d_Model_isSign_79 : decode prog_11_method_23_code 79 = .ok (.iconst 0, 1) := by decide +kernel
theorem d_Model_isSign_80 : decode prog_11_method_23_code 80 = .ok (.goto 14, 3) := by decide +kernel
theorem d_Model_isSign_83 : decode prog_11_method_23_code 83 = .ok (.iload_n 1, 1) := by decide +kernel
theorem d_Model_isSign_84 : decode prog_11_method_23_code 84 = .ok (.bipush 46, 2) := by decide +kernel
theorem d_Model_isSign_86 : decode prog_11_method_23_code 86 = .ok (.if_icmp .ne 7, 3) := by decide +kernel
theorem d_Model_isSign_89 : decode prog_11_method_23_code 89 = .ok (.iconst 1, 1) := by decide +kernel
theorem d_Model_isSign_90 : decode prog_11_method_23_code 90 = .ok (.goto 4, 3) := by decide +kernel
theorem d_Model_isSign_93 : decode prog_11_method_23_code 93 = .ok (.iconst 0, 1) := by decide +kernel
theorem d_Model_isSign_94 : decode prog_11_method_23_code 94 = .ok (.ireturn, 1) := by decide +kernel
theorem d_Model_isNothing_0 : decode prog_11_method_24_code 0 = .ok (.iload_n 0, 1) := by decide +kernel
theorem d_Model_isNothing_1 : decode prog_11_method_24_code 1 = .ok (.bipush 32, 2) := by decide +kernel
theorem d_Model_isNothing_3 : decode prog_11_method_24_code 3 = .ok (.if_icmp .le 9, 3) := by decide +kernel
theorem d_Model_isNothing_6 : decode prog_11_method_24_code 6 = .ok (.iload_n 0, 1) := by decide +kernel
theorem d_Model_isNothing_7 : decode prog_11_method_24_code 7 = .ok (.bipush 127, 2) := by decide +kernel
theorem d_Model_isNothing_9 : decode prog_11_method_24_code 9 = .ok (.if_icmp .ne 7, 3) := by decide +kernel
theorem d_Model_isNothing_12 : decode prog_11_method_24_code 12 = .ok (.iconst 1, 1) := by decide +kernel
theorem d_Model_isNothing_13 : decode prog_11_method_24_code 13 = .ok (.goto 4, 3) := by decide +kernel
theorem d_Model_isNothing_16 : decode prog_11_method_24_code 16 = .ok (.iconst 0, 1) := by decide +kernel
theorem d_Model_isNothing_17 : decode prog_11_method_24_code 17 = .ok (.ireturn, 1) := by decide +kernel
theorem d_Model_look_0 : decode prog_11_method_18_code 0 = .ok (.aload_n 0, 1) := by decide +kernel
theorem d_Model_look_1 : decode prog_11_method_18_code 1 = .ok (.getfield 143, 3) := by decide +kernel
theorem d_Model_look_4 : decode prog_11_method_18_code 4 = .ok (.aload_n 0, 1) := by decide +kernel
theorem d_Model_look_5 : decode prog_11_method_18_code 5 = .ok (.getfield 146, 3) := by decide +kernel
theorem d_Model_look_8 : decode prog_11_method_18_code 8 = .ok (.if_icmp .ge 15, 3) := by decide +kernel
theorem d_Model_look_11 : decode prog_11_method_18_code 11 = .ok (.aload_n 0, 1) := by decide +kernel
theorem d_Model_look_12 : decode prog_11_method_18_code 12 = .ok (.getfield 28, 3) := by decide +kernel
theorem d_Model_look_15 : decode prog_11_method_18_code 15 = .ok (.aload_n 0, 1) := by decide +kernel
theorem d_Model_look_16 : decode prog_11_method_18_code 16 = .ok (.getfield 143, 3) := by decide +kernel
theorem d_Model_look_19 : decode prog_11_method_18_code 19 = .ok (.iaload, 1) := by decide +kernel
theorem d_Model_look_20 : decode prog_11_method_18_code 20 = .ok (.goto 4, 3) := by decide +kernel
theorem d_Model_look_23 : decode prog_11_method_18_code 23 = .ok (.iconst (-1), 1) := by decide +kernel
theorem d_Model_look_24 : decode prog_11_method_18_code 24 = .ok (.ireturn, 1) := by decide +kernel
theorem d_Model_endWord_0 : decode prog_11_method_20_code 0 = .ok (.aload_n 0, 1) := by decide +kernel
theorem d_Model_endWord_1 : decode prog_11_method_20_code 1 = .ok (.getfield 40, 3) := by decide +kernel
theorem d_Model_endWord_4 : decode prog_11_method_20_code 4 = .ok (.aload_n 0, 1) := by decide +kernel
theorem d_Model_endWord_5 : decode prog_11_method_20_code 5 = .ok (.getfield 149, 3) := by decide +kernel
theorem d_Model_endWord_8 : decode prog_11_method_20_code 8 = .ok (.aload_n 0, 1) := by decide +kernel
theorem d_Model_endWord_9 : decode prog_11_method_20_code 9 = .ok (.getfield 152, 3) := by decide +kernel
theorem d_Model_endWord_12 : decode prog_11_method_20_code 12 = .ok (.iastore, 1) := by decide +kernel
theorem d_Model_endWord_13 : decode prog_11_method_20_code 13 = .ok (.aload_n 0, 1) := by decide +kernel
theorem d_Model_endWord_14 : decode prog_11_method_20_code 14 = .ok (.dup, 1) := by decide +kernel
theorem d_Model_endWord_15 : decode prog_11_method_20_code 15 = .ok (.getfield 149, 3) := by decide +kernel
theorem d_Model_endWord_18 : decode prog_11_method_20_code 18 = .ok (.iconst 1, 1) := by decide +kernel
theorem d_Model_endWord_19 : decode prog_11_method_20_code 19 = .ok (.iadd, 1) := by decide +kernel
theorem d_Model_endWord_20 : decode prog_11_method_20_code 20 = .ok (.putfield 149, 3) := by decide +kernel
theorem d_Model_endWord_23 : decode prog_11_method_20_code 23 = .ok (.return_, 1) := by decide +kernel
theorem d_Model_beginWord_0 : decode prog_11_method_19_code 0 = .ok (.aload_n 0, 1) := by decide +kernel
theorem d_Model_beginWord_1 : decode prog_11_method_19_code 1 = .ok (.getfield 31, 3) := by decide +kernel
theorem d_Model_beginWord_4 : decode prog_11_method_19_code 4 = .ok (.aload_n 0, 1) := by decide +kernel
theorem d_Model_beginWord_5 : decode prog_11_method_19_code 5 = .ok (.getfield 149, 3) := by decide +kernel
theorem d_Model_beginWord_8 : decode prog_11_method_19_code 8 = .ok (.iload_n 1, 1) := by decide +kernel
theorem d_Model_beginWord_9 : decode prog_11_method_19_code 9 = .ok (.iastore, 1) := by decide +kernel
theorem d_Model_beginWord_10 : decode prog_11_method_19_code 10 = .ok (.aload_n 0, 1) := by decide +kernel
theorem d_Model_beginWord_11 : decode prog_11_method_19_code 11 = .ok (.getfield 34, 3) := by decide +kernel
theorem d_Model_beginWord_14 : decode prog_11_method_19_code 14 = .ok (.aload_n 0, 1) := by decide +kernel
theorem d_Model_beginWord_15 : decode prog_11_method_19_code 15 = .ok (.getfield 149, 3) := by decide +kernel
theorem d_Model_beginWord_18 : decode prog_11_method_19_code 18 = .ok (.iload_n 2, 1) := by decide +kernel
theorem d_Model_beginWord_19 : decode prog_11_method_19_code 19 = .ok (.iastore, 1) := by decide +kernel
theorem d_Model_beginWord_20 : decode prog_11_method_19_code 20 = .ok (.aload_n 0, 1) := by decide +kernel
theorem d_Model_beginWord_21 : decode prog_11_method_19_code 21 = .ok (.getfield 37, 3) := by decide +kernel
theorem d_Model_beginWord_24 : decode prog_11_method_19_code 24 = .ok (.aload_n 0, 1) := by decide +kernel
theorem d_Model_beginWord_25 : decode prog_11_method_19_code 25 = .ok (.getfield 149, 3) := by decide +kernel
theorem d_Model_beginWord_28 : decode prog_11_method_19_code 28 = .ok (.aload_n 0, 1) := by decide +kernel
theorem d_Model_beginWord_29 : decode prog_11_method_19_code 29 = .ok (.getfield 152, 3) := by decide +kernel
theorem d_Model_beginWord_32 : decode prog_11_method_19_code 32 = .ok (.iastore, 1) := by decide +kernel
theorem d_Model_beginWord_33 : decode prog_11_method_19_code 33 = .ok (.return_, 1) := by decide +kernel
theorem d_Model_put_0 : decode prog_11_method_21_code 0 = .ok (.aload_n 0, 1) := by decide +kernel
theorem d_Model_put_1 : decode prog_11_method_21_code 1 = .ok (.getfield 43, 3) := by decide +kernel
theorem d_Model_put_4 : decode prog_11_method_21_code 4 = .ok (.aload_n 0, 1) := by decide +kernel
theorem d_Model_put_5 : decode prog_11_method_21_code 5 = .ok (.getfield 152, 3) := by decide +kernel
theorem d_Model_put_8 : decode prog_11_method_21_code 8 = .ok (.iload_n 1, 1) := by decide +kernel
theorem d_Model_put_9 : decode prog_11_method_21_code 9 = .ok (.iastore, 1) := by decide +kernel
theorem d_Model_put_10 : decode prog_11_method_21_code 10 = .ok (.aload_n 0, 1) := by decide +kernel
theorem d_Model_put_11 : decode prog_11_method_21_code 11 = .ok (.dup, 1) := by decide +kernel
theorem d_Model_put_12 : decode prog_11_method_21_code 12 = .ok (.getfield 152, 3) := by decide +kernel
theorem d_Model_put_15 : decode prog_11_method_21_code 15 = .ok (.iconst 1, 1) := by decide +kernel
theorem d_Model_put_16 : decode prog_11_method_21_code 16 = .ok (.iadd, 1) := by decide +kernel
theorem d_Model_put_17 : decode prog_11_method_21_code 17 = .ok (.putfield 152, 3) := by decide +kernel
theorem d_Model_put_20 : decode prog_11_method_21_code 20 = .ok (.return_, 1) := by decide +kernel
theorem d_Model_takeAtom_0 : decode prog_11_method_26_code 0 = .ok (.aload_n 0, 1) := by decide +kernel
theorem d_Model_takeAtom_1 : decode prog_11_method_26_code 1 = .ok (.iconst 4, 1) := by decide +kernel
theorem d_Model_takeAtom_2 : decode prog_11_method_26_code 2 = .ok (.iconst 0, 1) := by decide +kernel
theorem d_Model_takeAtom_3 : decode prog_11_method_26_code 3 = .ok (.invokevirtual 155, 3) := by decide +kernel
theorem d_Model_takeAtom_6 : decode prog_11_method_26_code 6 = .ok (.aload_n 0, 1) := by decide +kernel
theorem d_Model_takeAtom_7 : decode prog_11_method_26_code 7 = .ok (.invokevirtual 181, 3) := by decide +kernel
theorem d_Model_takeAtom_10 : decode prog_11_method_26_code 10 = .ok (.istore_n 1, 1) := by decide +kernel
theorem d_Model_takeAtom_11 : decode prog_11_method_26_code 11 = .ok (.iload_n 1, 1) := by decide +kernel
theorem d_Model_takeAtom_12 : decode prog_11_method_26_code 12 = .ok (.iconst (-1), 1) := by decide +kernel
theorem d_Model_takeAtom_13 : decode prog_11_method_26_code 13 = .ok (.if_icmp .eq 59, 3) := by decide +kernel
theorem d_Model_takeAtom_16 : decode prog_11_method_26_code 16 = .ok (.iload_n 1, 1) := by decide +kernel
theorem d_Model_takeAtom_17 : decode prog_11_method_26_code 17 = .ok (.invokestatic 169, 3) := by decide +kernel
theorem d_Model_takeAtom_20 : decode prog_11_method_26_code 20 = .ok (.ifCond .ne 52, 3) := by decide +kernel
theorem d_Model_takeAtom_23 : decode prog_11_method_26_code 23 = .ok (.iload_n 1, 1) := by decide +kernel
theorem d_Model_takeAtom_24 : decode prog_11_method_26_code 24 = .ok (.bipush 40, 2) := by decide +kernel
theorem d_Model_takeAtom_26 : decode prog_11_method_26_code 26 = .ok (.if_icmp .eq 46, 3) := by decide +kernel
theorem d_Model_takeAtom_29 : decode prog_11_method_26_code 29 = .ok (.iload_n 1, 1) := by decide +kernel
theorem d_Model_takeAtom_30 : decode prog_11_method_26_code 30 = .ok (.bipush 34, 2) := by decide +kernel
theorem d_Model_takeAtom_32 : decode prog_11_method_26_code 32 = .ok (.if_icmp .eq 40, 3) := by decide +kernel
theorem d_Model_takeAtom_35 : decode prog_11_method_26_code 35 = .ok (.iload_n 1, 1) := by decide +kernel
theorem d_Model_takeAtom_36 : decode prog_11_method_26_code 36 = .ok (.bipush 91, 2) := by decide +kernel
theorem d_Model_takeAtom_38 : decode prog_11_method_26_code 38 = .ok (.if_icmp .eq 34, 3) := by decide +kernel
theorem d_Model_takeAtom_41 : decode prog_11_method_26_code 41 = .ok (.aload_n 0, 1) := by decide +kernel
theorem d_Model_takeAtom_42 : decode prog_11_method_26_code 42 = .ok (.iload_n 1, 1) := by decide +kernel
theorem d_Model_takeAtom_43 : decode prog_11_method_26_code 43 = .ok (.invokevirtual 175, 3) := by decide +kernel
theorem d_Model_takeAtom_46 : decode prog_11_method_26_code 46 = .ok (.ifCond .ne 26, 3) := by decide +kernel
theorem d_Model_takeAtom_49 : decode prog_11_method_26_code 49 = .ok (.aload_n 0, 1) := by decide +kernel
theorem d_Model_takeAtom_50 : decode prog_11_method_26_code 50 = .ok (.iload_n 1, 1) := by decide +kernel
theorem d_Model_takeAtom_51 : decode prog_11_method_26_code 51 = .ok (.invokevirtual 158, 3) := by decide +kernel
theorem d_Model_takeAtom_54 : decode prog_11_method_26_code 54 = .ok (.aload_n 0, 1) := by decide +kernel
theorem d_Model_takeAtom_55 : decode prog_11_method_26_code 55 = .ok (.dup, 1) := by decide +kernel
theorem d_Model_takeAtom_56 : decode prog_11_method_26_code 56 = .ok (.getfield 143, 3) := by decide +kernel
theorem d_Model_takeAtom_59 : decode prog_11_method_26_code 59 = .ok (.iconst 1, 1) := by decide +kernel
theorem d_Model_takeAtom_60 : decode prog_11_method_26_code 60 = .ok (.iadd, 1) := by decide +kernel
theorem d_Model_takeAtom_61 : decode prog_11_method_26_code 61 = .ok (.putfield 143, 3) := by decide +kernel
theorem d_Model_takeAtom_64 : decode prog_11_method_26_code 64 = .ok (.aload_n 0, 1) := by decide +kernel
theorem d_Model_takeAtom_65 : decode prog_11_method_26_code 65 = .ok (.invokevirtual 181, 3) := by decide +kernel
theorem d_Model_takeAtom_68 : decode prog_11_method_26_code 68 = .ok (.istore_n 1, 1) := by decide +kernel
theorem d_Model_takeAtom_69 : decode prog_11_method_26_code 69 = .ok (.goto (-58), 3) := by decide +kernel
theorem d_Model_takeAtom_72 : decode prog_11_method_26_code 72 = .ok (.aload_n 0, 1) := by decide +kernel
theorem d_Model_takeAtom_73 : decode prog_11_method_26_code 73 = .ok (.invokevirtual 162, 3) := by decide +kernel
theorem d_Model_takeAtom_76 : decode prog_11_method_26_code 76 = .ok (.return_, 1) := by decide +kernel
theorem d_Model_takeEnclosed_0 : decode prog_11_method_22_code 0 = .ok (.aload_n 0, 1) := by decide +kernel
theorem d_Model_takeEnclosed_1 : decode prog_11_method_22_code 1 = .ok (.iload_n 1, 1) := by decide +kernel
theorem d_Model_takeEnclosed_2 : decode prog_11_method_22_code 2 = .ok (.iconst 0, 1) := by decide +kernel
theorem d_Model_takeEnclosed_3 : decode prog_11_method_22_code 3 = .ok (.invokevirtual 155, 3) := by decide +kernel
theorem d_Model_takeEnclosed_6 : decode prog_11_method_22_code 6 = .ok (.aload_n 0, 1) := by decide +kernel
theorem d_Model_takeEnclosed_7 : decode prog_11_method_22_code 7 = .ok (.dup, 1) := by decide +kernel
theorem d_Model_takeEnclosed_8 : decode prog_11_method_22_code 8 = .ok (.getfield 143, 3) := by decide +kernel
theorem d_Model_takeEnclosed_11 : decode prog_11_method_22_code 11 = .ok (.iconst 1, 1) := by decide +kernel
theorem d_Model_takeEnclosed_12 : decode prog_11_method_22_code 12 = .ok (.iadd, 1) := by decide +kernel
theorem d_Model_takeEnclosed_13 : decode prog_11_method_22_code 13 = .ok (.putfield 143, 3) := by decide +kernel
theorem d_Model_takeEnclosed_16 : decode prog_11_method_22_code 16 = .ok (.iconst 1, 1) := by decide +kernel
theorem d_Model_takeEnclosed_17 : decode prog_11_method_22_code 17 = .ok (.istore_n 3, 1) := by decide +kernel
theorem d_Model_takeEnclosed_18 : decode prog_11_method_22_code 18 = .ok (.aload_n 0, 1) := by decide +kernel
theorem d_Model_takeEnclosed_19 : decode prog_11_method_22_code 19 = .ok (.getfield 143, 3) := by decide +kernel
theorem d_Model_takeEnclosed_22 : decode prog_11_method_22_code 22 = .ok (.aload_n 0, 1) := by decide +kernel
theorem d_Model_takeEnclosed_23 : decode prog_11_method_22_code 23 = .ok (.getfield 146, 3) := by decide +kernel
theorem d_Model_takeEnclosed_26 : decode prog_11_method_22_code 26 = .ok (.if_icmp .ge 108, 3) := by decide +kernel
theorem d_Model_takeEnclosed_29 : decode prog_11_method_22_code 29 = .ok (.iload_n 3, 1) := by decide +kernel
theorem d_Model_takeEnclosed_30 : decode prog_11_method_22_code 30 = .ok (.ifCond .le 104, 3) := by decide +kernel
theorem d_Model_takeEnclosed_33 : decode prog_11_method_22_code 33 = .ok (.aload_n 0, 1) := by decide +kernel
theorem d_Model_takeEnclosed_34 : decode prog_11_method_22_code 34 = .ok (.getfield 28, 3) := by decide +kernel
theorem d_Model_takeEnclosed_37 : decode prog_11_method_22_code 37 = .ok (.aload_n 0, 1) := by decide +kernel
theorem d_Model_takeEnclosed_38 : decode prog_11_method_22_code 38 = .ok (.getfield 143, 3) := by decide +kernel
theorem d_Model_takeEnclosed_41 : decode prog_11_method_22_code 41 = .ok (.iaload, 1) := by decide +kernel
theorem d_Model_takeEnclosed_42 : decode prog_11_method_22_code 42 = .ok (.istore 4, 2) := by decide +kernel
theorem d_Model_takeEnclosed_44 : decode prog_11_method_22_code 44 = .ok (.aload_n 0, 1) := by decide +kernel
theorem d_Model_takeEnclosed_45 : decode prog_11_method_22_code 45 = .ok (.dup, 1) := by decide +kernel
theorem d_Model_takeEnclosed_46 : decode prog_11_method_22_code 46 = .ok (.getfield 143, 3) := by decide +kernel
theorem d_Model_takeEnclosed_49 : decode prog_11_method_22_code 49 = .ok (.iconst 1, 1) := by decide +kernel
theorem d_Model_takeEnclosed_50 : decode prog_11_method_22_code 50 = .ok (.iadd, 1) := by decide +kernel
theorem d_Model_takeEnclosed_51 : decode prog_11_method_22_code 51 = .ok (.putfield 143, 3) := by decide +kernel
theorem d_Model_takeEnclosed_54 : decode prog_11_method_22_code 54 = .ok (.iload 4, 2) := by decide +kernel
theorem d_Model_takeEnclosed_56 : decode prog_11_method_22_code 56 = .ok (.bipush 92, 2) := by decide +kernel
theorem d_Model_takeEnclosed_58 : decode prog_11_method_22_code 58 = .ok (.if_icmp .ne 40, 3) := by decide +kernel
theorem d_Model_takeEnclosed_61 : decode prog_11_method_22_code 61 = .ok (.aload_n 0, 1) := by decide +kernel
theorem d_Model_takeEnclosed_62 : decode prog_11_method_22_code 62 = .ok (.getfield 143, 3) := by decide +kernel
theorem d_Model_takeEnclosed_65 : decode prog_11_method_22_code 65 = .ok (.aload_n 0, 1) := by decide +kernel
theorem d_Model_takeEnclosed_66 : decode prog_11_method_22_code 66 = .ok (.getfield 146, 3) := by decide +kernel
theorem d_Model_takeEnclosed_69 : decode prog_11_method_22_code 69 = .ok (.if_icmp .ge 62, 3) := by decide +kernel
theorem d_Model_takeEnclosed_72 : decode prog_11_method_22_code 72 = .ok (.aload_n 0, 1) := by decide +kernel
theorem d_Model_takeEnclosed_73 : decode prog_11_method_22_code 73 = .ok (.aload_n 0, 1) := by decide +kernel
theorem d_Model_takeEnclosed_74 : decode prog_11_method_22_code 74 = .ok (.getfield 28, 3) := by decide +kernel
theorem d_Model_takeEnclosed_77 : decode prog_11_method_22_code 77 = .ok (.aload_n 0, 1) := by decide +kernel
theorem d_Model_takeEnclosed_78 : decode prog_11_method_22_code 78 = .ok (.getfield 143, 3) := by decide +kernel
theorem d_Model_takeEnclosed_81 : decode prog_11_method_22_code 81 = .ok (.iaload, 1) := by decide +kernel
theorem d_Model_takeEnclosed_82 : decode prog_11_method_22_code 82 = .ok (.invokevirtual 158, 3) := by decide +kernel
theorem d_Model_takeEnclosed_85 : decode prog_11_method_22_code 85 = .ok (.aload_n 0, 1) := by decide +kernel
theorem d_Model_takeEnclosed_86 : decode prog_11_method_22_code 86 = .ok (.dup, 1) := by decide +kernel
theorem d_Model_takeEnclosed_87 : decode prog_11_method_22_code 87 = .ok (.getfield 143, 3) := by decide +kernel
theorem d_Model_takeEnclosed_90 : decode prog_11_method_22_code 90 = .ok (.iconst 1, 1) := by decide +kernel
theorem d_Model_takeEnclosed_91 : decode prog_11_method_22_code 91 = .ok (.iadd, 1) := by decide +kernel
theorem d_Model_takeEnclosed_92 : decode prog_11_method_22_code 92 = .ok (.putfield 143, 3) := by decide +kernel
theorem d_Model_takeEnclosed_95 : decode prog_11_method_22_code 95 = .ok (.goto 36, 3) := by decide +kernel
theorem d_Model_takeEnclosed_98 : decode prog_11_method_22_code 98 = .ok (.iload_n 1, 1) := by decide +kernel
theorem d_Model_takeEnclosed_99 : decode prog_11_method_22_code 99 = .ok (.ifCond .ne 13, 3) := by decide +kernel
theorem d_Model_takeEnclosed_102 : decode prog_11_method_22_code 102 = .ok (.iload 4, 2) := by decide +kernel
theorem d_Model_takeEnclosed_104 : decode prog_11_method_22_code 104 = .ok (.bipush 40, 2) := by decide +kernel
theorem d_Model_takeEnclosed_106 : decode prog_11_method_22_code 106 = .ok (.if_icmp .ne 6, 3) := by decide +kernel
theorem d_Model_takeEnclosed_109 : decode prog_11_method_22_code 109 = .ok (.iinc 3 1, 3) := by decide +kernel
theorem d_Model_takeEnclosed_112 : decode prog_11_method_22_code 112 = .ok (.iload 4, 2) := by decide +kernel
theorem d_Model_takeEnclosed_114 : decode prog_11_method_22_code 114 = .ok (.iload_n 2, 1) := by decide +kernel
theorem d_Model_takeEnclosed_115 : decode prog_11_method_22_code 115 = .ok (.if_icmp .ne 6, 3) := by decide +kernel
theorem d_Model_takeEnclosed_118 : decode prog_11_method_22_code 118 = .ok (.iinc 3 (-1), 3) := by decide +kernel
theorem d_Model_takeEnclosed_121 : decode prog_11_method_22_code 121 = .ok (.iload_n 3, 1) := by decide +kernel
theorem d_Model_takeEnclosed_122 : decode prog_11_method_22_code 122 = .ok (.ifCond .le 9, 3) := by decide +kernel
theorem d_Model_takeEnclosed_125 : decode prog_11_method_22_code 125 = .ok (.aload_n 0, 1) := by decide +kernel
theorem d_Model_takeEnclosed_126 : decode prog_11_method_22_code 126 = .ok (.iload 4, 2) := by decide +kernel
theorem d_Model_takeEnclosed_128 : decode prog_11_method_22_code 128 = .ok (.invokevirtual 158, 3) := by decide +kernel
theorem d_Model_takeEnclosed_131 : decode prog_11_method_22_code 131 = .ok (.goto (-113), 3) := by decide +kernel
theorem d_Model_takeEnclosed_134 : decode prog_11_method_22_code 134 = .ok (.aload_n 0, 1) := by decide +kernel
theorem d_Model_takeEnclosed_135 : decode prog_11_method_22_code 135 = .ok (.invokevirtual 162, 3) := by decide +kernel
theorem d_Model_takeEnclosed_138 : decode prog_11_method_22_code 138 = .ok (.return_, 1) := by decide +kernel
theorem d_Model_cut_0 : decode prog_11_method_25_code 0 = .ok (.aload_n 0, 1) := by decide +kernel
theorem d_Model_cut_1 : decode prog_11_method_25_code 1 = .ok (.iconst 0, 1) := by decide +kernel
theorem d_Model_cut_2 : decode prog_11_method_25_code 2 = .ok (.putfield 149, 3) := by decide +kernel
theorem d_Model_cut_5 : decode prog_11_method_25_code 5 = .ok (.aload_n 0, 1) := by decide +kernel
theorem d_Model_cut_6 : decode prog_11_method_25_code 6 = .ok (.iconst 0, 1) := by decide +kernel
theorem d_Model_cut_7 : decode prog_11_method_25_code 7 = .ok (.putfield 152, 3) := by decide +kernel
theorem d_Model_cut_10 : decode prog_11_method_25_code 10 = .ok (.aload_n 0, 1) := by decide +kernel
theorem d_Model_cut_11 : decode prog_11_method_25_code 11 = .ok (.iload_n 2, 1) := by decide +kernel
theorem d_Model_cut_12 : decode prog_11_method_25_code 12 = .ok (.putfield 165, 3) := by decide +kernel
theorem d_Model_cut_15 : decode prog_11_method_25_code 15 = .ok (.aload_n 0, 1) := by decide +kernel
theorem d_Model_cut_16 : decode prog_11_method_25_code 16 = .ok (.aload_n 0, 1) := by decide +kernel
theorem d_Model_cut_17 : decode prog_11_method_25_code 17 = .ok (.getfield 22, 3) := by decide +kernel
theorem d_Model_cut_20 : decode prog_11_method_25_code 20 = .ok (.iload_n 1, 1) := by decide +kernel
theorem d_Model_cut_21 : decode prog_11_method_25_code 21 = .ok (.iaload, 1) := by decide +kernel
theorem d_Model_cut_22 : decode prog_11_method_25_code 22 = .ok (.putfield 143, 3) := by decide +kernel
theorem d_Model_cut_25 : decode prog_11_method_25_code 25 = .ok (.aload_n 0, 1) := by decide +kernel
theorem d_Model_cut_26 : decode prog_11_method_25_code 26 = .ok (.aload_n 0, 1) := by decide +kernel
theorem d_Model_cut_27 : decode prog_11_method_25_code 27 = .ok (.getfield 143, 3) := by decide +kernel
theorem d_Model_cut_30 : decode prog_11_method_25_code 30 = .ok (.aload_n 0, 1) := by decide +kernel
theorem d_Model_cut_31 : decode prog_11_method_25_code 31 = .ok (.getfield 25, 3) := by decide +kernel
theorem d_Model_cut_34 : decode prog_11_method_25_code 34 = .ok (.iload_n 1, 1) := by decide +kernel
theorem d_Model_cut_35 : decode prog_11_method_25_code 35 = .ok (.iaload, 1) := by decide +kernel
theorem d_Model_cut_36 : decode prog_11_method_25_code 36 = .ok (.iadd, 1) := by decide +kernel
theorem d_Model_cut_37 : decode prog_11_method_25_code 37 = .ok (.putfield 146, 3) := by decide +kernel
theorem d_Model_cut_40 : decode prog_11_method_25_code 40 = .ok (.aload_n 0, 1) := by decide +kernel
theorem d_Model_cut_41 : decode prog_11_method_25_code 41 = .ok (.getfield 143, 3) := by decide +kernel
theorem d_Model_cut_44 : decode prog_11_method_25_code 44 = .ok (.aload_n 0, 1) := by decide +kernel
theorem d_Model_cut_45 : decode prog_11_method_25_code 45 = .ok (.getfield 146, 3) := by decide +kernel
theorem d_Model_cut_48 : decode prog_11_method_25_code 48 = .ok (.if_icmp .ge 124, 3) := by decide +kernel
theorem d_Model_cut_51 : decode prog_11_method_25_code 51 = .ok (.aload_n 0, 1) := by decide +kernel
theorem d_Model_cut_52 : decode prog_11_method_25_code 52 = .ok (.getfield 28, 3) := by decide +kernel
theorem d_Model_cut_55 : decode prog_11_method_25_code 55 = .ok (.aload_n 0, 1) := by decide +kernel
theorem d_Model_cut_56 : decode prog_11_method_25_code 56 = .ok (.getfield 143, 3) := by decide +kernel
theorem d_Model_cut_59 : decode prog_11_method_25_code 59 = .ok (.iaload, 1) := by decide +kernel
theorem d_Model_cut_60 : decode prog_11_method_25_code 60 = .ok (.istore_n 3, 1) := by decide +kernel
theorem d_Model_cut_61 : decode prog_11_method_25_code 61 = .ok (.iload_n 3, 1) := by decide +kernel
theorem d_Model_cut_62 : decode prog_11_method_25_code 62 = .ok (.invokestatic 169, 3) := by decide +kernel
theorem d_Model_cut_65 : decode prog_11_method_25_code 65 = .ok (.ifCond .eq 16, 3) := by decide +kernel
theorem d_Model_cut_68 : decode prog_11_method_25_code 68 = .ok (.aload_n 0, 1) := by decide +kernel
theorem d_Model_cut_69 : decode prog_11_method_25_code 69 = .ok (.dup, 1) := by decide +kernel
theorem d_Model_cut_70 : decode prog_11_method_25_code 70 = .ok (.getfield 143, 3) := by decide +kernel
theorem d_Model_cut_73 : decode prog_11_method_25_code 73 = .ok (.iconst 1, 1) := by decide +kernel
theorem d_Model_cut_74 : decode prog_11_method_25_code 74 = .ok (.iadd, 1) := by decide +kernel
theorem d_Model_cut_75 : decode prog_11_method_25_code 75 = .ok (.putfield 143, 3) := by decide +kernel
theorem d_Model_cut_78 : decode prog_11_method_25_code 78 = .ok (.goto 91, 3) := by decide +kernel
theorem d_Model_cut_81 : decode prog_11_method_25_code 81 = .ok (.iload_n 3, 1) := by decide +kernel
theorem d_Model_cut_82 : decode prog_11_method_25_code 82 = .ok (.bipush 40, 2) := by decide +kernel
theorem d_Model_cut_84 : decode prog_11_method_25_code 84 = .ok (.if_icmp .ne 13, 3) := by decide +kernel
theorem d_Model_cut_87 : decode prog_11_method_25_code 87 = .ok (.aload_n 0, 1) := by decide +kernel
theorem d_Model_cut_88 : decode prog_11_method_25_code 88 = .ok (.iconst 0, 1) := by decide +kernel
theorem d_Model_cut_89 : decode prog_11_method_25_code 89 = .ok (.bipush 41, 2) := by decide +kernel
theorem d_Model_cut_91 : decode prog_11_method_25_code 91 = .ok (.invokevirtual 172, 3) := by decide +kernel
theorem d_Model_cut_94 : decode prog_11_method_25_code 94 = .ok (.goto 75, 3) := by decide +kernel
theorem d_Model_cut_97 : decode prog_11_method_25_code 97 = .ok (.iload_n 3, 1) := by decide +kernel
theorem d_Model_cut_98 : decode prog_11_method_25_code 98 = .ok (.bipush 34, 2) := by decide +kernel
theorem d_Model_cut_100 : decode prog_11_method_25_code 100 = .ok (.if_icmp .ne 13, 3) := by decide +kernel
theorem d_Model_cut_103 : decode prog_11_method_25_code 103 = .ok (.aload_n 0, 1) := by decide +kernel
theorem d_Model_cut_104 : decode prog_11_method_25_code 104 = .ok (.iconst 1, 1) := by decide +kernel
theorem d_Model_cut_105 : decode prog_11_method_25_code 105 = .ok (.bipush 34, 2) := by decide +kernel
theorem d_Model_cut_107 : decode prog_11_method_25_code 107 = .ok (.invokevirtual 172, 3) := by decide +kernel
theorem d_Model_cut_110 : decode prog_11_method_25_code 110 = .ok (.goto 59, 3) := by decide +kernel
theorem d_Model_cut_113 : decode prog_11_method_25_code 113 = .ok (.iload_n 3, 1) := by decide +kernel
theorem d_Model_cut_114 : decode prog_11_method_25_code 114 = .ok (.bipush 91, 2) := by decide +kernel
theorem d_Model_cut_116 : decode prog_11_method_25_code 116 = .ok (.if_icmp .ne 13, 3) := by decide +kernel
theorem d_Model_cut_119 : decode prog_11_method_25_code 119 = .ok (.aload_n 0, 1) := by decide +kernel
theorem d_Model_cut_120 : decode prog_11_method_25_code 120 = .ok (.iconst 2, 1) := by decide +kernel
theorem d_Model_cut_121 : decode prog_11_method_25_code 121 = .ok (.bipush 93, 2) := by decide +kernel
theorem d_Model_cut_123 : decode prog_11_method_25_code 123 = .ok (.invokevirtual 172, 3) := by decide +kernel
theorem d_Model_cut_126 : decode prog_11_method_25_code 126 = .ok (.goto 43, 3) := by decide +kernel
theorem d_Model_cut_129 : decode prog_11_method_25_code 129 = .ok (.aload_n 0, 1) := by decide +kernel
theorem d_Model_cut_130 : decode prog_11_method_25_code 130 = .ok (.iload_n 3, 1) := by decide +kernel
theorem d_Model_cut_131 : decode prog_11_method_25_code 131 = .ok (.invokevirtual 175, 3) := by decide +kernel
theorem d_Model_cut_134 : decode prog_11_method_25_code 134 = .ok (.ifCond .eq 31, 3) := by decide +kernel
theorem d_Model_cut_137 : decode prog_11_method_25_code 137 = .ok (.aload_n 0, 1) := by decide +kernel
theorem d_Model_cut_138 : decode prog_11_method_25_code 138 = .ok (.iconst 3, 1) := by decide +kernel
theorem d_Model_cut_139 : decode prog_11_method_25_code 139 = .ok (.iload_n 3, 1) := by decide +kernel
theorem d_Model_cut_140 : decode prog_11_method_25_code 140 = .ok (.invokevirtual 155, 3) := by decide +kernel
theorem d_Model_cut_143 : decode prog_11_method_25_code 143 = .ok (.aload_n 0, 1) := by decide +kernel
theorem d_Model_cut_144 : decode prog_11_method_25_code 144 = .ok (.iload_n 3, 1) := by decide +kernel
theorem d_Model_cut_145 : decode prog_11_method_25_code 145 = .ok (.invokevirtual 158, 3) := by decide +kernel
theorem d_Model_cut_148 : decode prog_11_method_25_code 148 = .ok (.aload_n 0, 1) := by decide +kernel
theorem d_Model_cut_149 : decode prog_11_method_25_code 149 = .ok (.dup, 1) := by decide +kernel
theorem d_Model_cut_150 : decode prog_11_method_25_code 150 = .ok (.getfield 143, 3) := by decide +kernel
theorem d_Model_cut_153 : decode prog_11_method_25_code 153 = .ok (.iconst 1, 1) := by decide +kernel
theorem d_Model_cut_154 : decode prog_11_method_25_code 154 = .ok (.iadd, 1) := by decide +kernel
theorem d_Model_cut_155 : decode prog_11_method_25_code 155 = .ok (.putfield 143, 3) := by decide +kernel
theorem d_Model_cut_158 : decode prog_11_method_25_code 158 = .ok (.aload_n 0, 1) := by decide +kernel
theorem d_Model_cut_159 : decode prog_11_method_25_code 159 = .ok (.invokevirtual 162, 3) := by decide +kernel
theorem d_Model_cut_162 : decode prog_11_method_25_code 162 = .ok (.goto 7, 3) := by decide +kernel
theorem d_Model_cut_165 : decode prog_11_method_25_code 165 = .ok (.aload_n 0, 1) := by decide +kernel
theorem d_Model_cut_166 : decode prog_11_method_25_code 166 = .ok (.invokevirtual 178, 3) := by decide +kernel
theorem d_Model_cut_169 : decode prog_11_method_25_code 169 = .ok (.goto (-129), 3) := by decide +kernel
theorem d_Model_cut_172 : decode prog_11_method_25_code 172 = .ok (.return_, 1) := by decide +kernel
theorem d_Model_addresses_0 : decode prog_11_method_48_code 0 = .ok (.aload_n 0, 1) := by decide +kernel
theorem d_Model_addresses_1 : decode prog_11_method_48_code 1 = .ok (.aload_n 0, 1) := by decide +kernel
theorem d_Model_addresses_2 : decode prog_11_method_48_code 2 = .ok (.iload_n 1, 1) := by decide +kernel
theorem d_Model_addresses_3 : decode prog_11_method_48_code 3 = .ok (.invokevirtual 137, 3) := by decide +kernel
theorem d_Model_addresses_6 : decode prog_11_method_48_code 6 = .ok (.ifCond .eq 7, 3) := by decide +kernel
theorem d_Model_addresses_9 : decode prog_11_method_48_code 9 = .ok (.iconst 0, 1) := by decide +kernel
theorem d_Model_addresses_10 : decode prog_11_method_48_code 10 = .ok (.goto 4, 3) := by decide +kernel
theorem d_Model_addresses_13 : decode prog_11_method_48_code 13 = .ok (.iconst 1, 1) := by decide +kernel
theorem d_Model_addresses_14 : decode prog_11_method_48_code 14 = .ok (.putfield 99, 3) := by decide +kernel
theorem d_Model_addresses_17 : decode prog_11_method_48_code 17 = .ok (.aload_n 0, 1) := by decide +kernel
theorem d_Model_addresses_18 : decode prog_11_method_48_code 18 = .ok (.getfield 99, 3) := by decide +kernel
theorem d_Model_addresses_21 : decode prog_11_method_48_code 21 = .ok (.ifCond .eq 5, 3) := by decide +kernel
theorem d_Model_addresses_24 : decode prog_11_method_48_code 24 = .ok (.iconst 0, 1) := by decide +kernel
theorem d_Model_addresses_25 : decode prog_11_method_48_code 25 = .ok (.ireturn, 1) := by decide +kernel
theorem d_Model_addresses_26 : decode prog_11_method_48_code 26 = .ok (.aload_n 0, 1) := by decide +kernel
theorem d_Model_addresses_27 : decode prog_11_method_48_code 27 = .ok (.iload_n 1, 1) := by decide +kernel
theorem d_Model_addresses_28 : decode prog_11_method_48_code 28 = .ok (.iconst 0, 1) := by decide +kernel
theorem d_Model_addresses_29 : decode prog_11_method_48_code 29 = .ok (.invokevirtual 251, 3) := by decide +kernel
theorem d_Model_addresses_32 : decode prog_11_method_48_code 32 = .ok (.aload_n 0, 1) := by decide +kernel
theorem d_Model_addresses_33 : decode prog_11_method_48_code 33 = .ok (.iconst 0, 1) := by decide +kernel
theorem d_Model_addresses_34 : decode prog_11_method_48_code 34 = .ok (.iconst 3, 1) := by decide +kernel
theorem d_Model_addresses_35 : decode prog_11_method_48_code 35 = .ok (.iconst 0, 1) := by decide +kernel
theorem d_Model_addresses_36 : decode prog_11_method_48_code 36 = .ok (.invokevirtual 255, 3) := by decide +kernel
theorem d_Model_addresses_39 : decode prog_11_method_48_code 39 = .ok (.aload_n 0, 1) := by decide +kernel
theorem d_Model_addresses_40 : decode prog_11_method_48_code 40 = .ok (.iconst 0, 1) := by decide +kernel
theorem d_Model_addresses_41 : decode prog_11_method_48_code 41 = .ok (.putfield 248, 3) := by decide +kernel
theorem d_Model_addresses_44 : decode prog_11_method_48_code 44 = .ok (.aload_n 0, 1) := by decide +kernel
theorem d_Model_addresses_45 : decode prog_11_method_48_code 45 = .ok (.iconst 0, 1) := by decide +kernel
theorem d_Model_addresses_46 : decode prog_11_method_48_code 46 = .ok (.putfield 227, 3) := by decide +kernel
theorem d_Model_addresses_49 : decode prog_11_method_48_code 49 = .ok (.iconst (-1), 1) := by decide +kernel
theorem d_Model_addresses_50 : decode prog_11_method_48_code 50 = .ok (.istore_n 2, 1) := by decide +kernel
theorem d_Model_addresses_51 : decode prog_11_method_48_code 51 = .ok (.iconst 0, 1) := by decide +kernel
theorem d_Model_addresses_52 : decode prog_11_method_48_code 52 = .ok (.istore_n 3, 1) := by decide +kernel
theorem d_Model_addresses_53 : decode prog_11_method_48_code 53 = .ok (.iconst 0, 1) := by decide +kernel
theorem d_Model_addresses_54 : decode prog_11_method_48_code 54 = .ok (.istore 4, 2) := by decide +kernel
theorem d_Model_addresses_56 : decode prog_11_method_48_code 56 = .ok (.iconst 0, 1) := by decide +kernel
theorem d_Model_addresses_57 : decode prog_11_method_48_code 57 = .ok (.istore 5, 2) := by decide +kernel
theorem d_Model_addresses_59 : decode prog_11_method_48_code 59 = .ok (.iload 5, 2) := by decide +kernel
theorem d_Model_addresses_61 : decode prog_11_method_48_code 61 = .ok (.aload_n 0, 1) := by decide +kernel
theorem d_Model_addresses_62 : decode prog_11_method_48_code 62 = .ok (.getfield 149, 3) := by decide +kernel
theorem d_Model_addresses_65 : decode prog_11_method_48_code 65 = .ok (.if_icmp .gt 226, 3) := by decide +kernel
theorem d_Model_addresses_68 : decode prog_11_method_48_code 68 = .ok (.iload 5, 2) := by decide +kernel
theorem d_Model_addresses_70 : decode prog_11_method_48_code 70 = .ok (.aload_n 0, 1) := by decide +kernel
theorem d_Model_addresses_71 : decode prog_11_method_48_code 71 = .ok (.getfield 149, 3) := by decide +kernel
theorem d_Model_addresses_74 : decode prog_11_method_48_code 74 = .ok (.if_icmp .ne 7, 3) := by decide +kernel
theorem d_Model_addresses_77 : decode prog_11_method_48_code 77 = .ok (.iconst 1, 1) := by decide +kernel
theorem d_Model_addresses_78 : decode prog_11_method_48_code 78 = .ok (.goto 4, 3) := by decide +kernel
theorem d_Model_addresses_81 : decode prog_11_method_48_code 81 = .ok (.iconst 0, 1) := by decide +kernel
theorem d_Model_addresses_82 : decode prog_11_method_48_code 82 = .ok (.istore 6, 2) := by decide +kernel
theorem d_Model_addresses_84 : decode prog_11_method_48_code 84 = .ok (.iload 6, 2) := by decide +kernel
theorem d_Model_addresses_86 : decode prog_11_method_48_code 86 = .ok (.ifCond .ne 25, 3) := by decide +kernel
theorem d_Model_addresses_89 : decode prog_11_method_48_code 89 = .ok (.aload_n 0, 1) := by decide +kernel
theorem d_Model_addresses_90 : decode prog_11_method_48_code 90 = .ok (.iload 5, 2) := by decide +kernel
theorem d_Model_addresses_92 : decode prog_11_method_48_code 92 = .ok (.bipush 60, 2) := by decide +kernel
theorem d_Model_addresses_94 : decode prog_11_method_48_code 94 = .ok (.invokevirtual 200, 3) := by decide +kernel
theorem d_Model_addresses_97 : decode prog_11_method_48_code 97 = .ok (.ifCond .eq 14, 3) := by decide +kernel
theorem d_Model_addresses_100 : decode prog_11_method_48_code 100 = .ok (.iload 4, 2) := by decide +kernel
theorem d_Model_addresses_102 : decode prog_11_method_48_code 102 = .ok (.ifCond .ne 9, 3) := by decide +kernel
theorem d_Model_addresses_105 : decode prog_11_method_48_code 105 = .ok (.iconst 1, 1) := by decide +kernel
theorem d_Model_addresses_106 : decode prog_11_method_48_code 106 = .ok (.istore 4, 2) := by decide +kernel
theorem d_Model_addresses_108 : decode prog_11_method_48_code 108 = .ok (.goto 22, 3) := by decide +kernel
theorem d_Model_addresses_111 : decode prog_11_method_48_code 111 = .ok (.iload 6, 2) := by decide +kernel
theorem d_Model_addresses_113 : decode prog_11_method_48_code 113 = .ok (.ifCond .ne 17, 3) := by decide +kernel
theorem d_Model_addresses_116 : decode prog_11_method_48_code 116 = .ok (.aload_n 0, 1) := by decide +kernel
theorem d_Model_addresses_117 : decode prog_11_method_48_code 117 = .ok (.iload 5, 2) := by decide +kernel
theorem d_Model_addresses_119 : decode prog_11_method_48_code 119 = .ok (.bipush 62, 2) := by decide +kernel
theorem d_Model_addresses_121 : decode prog_11_method_48_code 121 = .ok (.invokevirtual 200, 3) := by decide +kernel
theorem d_Model_addresses_124 : decode prog_11_method_48_code 124 = .ok (.ifCond .eq 6, 3) := by decide +kernel
theorem d_Model_addresses_127 : decode prog_11_method_48_code 127 = .ok (.iconst 0, 1) := by decide +kernel
theorem d_Model_addresses_128 : decode prog_11_method_48_code 128 = .ok (.istore 4, 2) := by decide +kernel
theorem d_Model_addresses_130 : decode prog_11_method_48_code 130 = .ok (.iload 6, 2) := by decide +kernel
theorem d_Model_addresses_132 : decode prog_11_method_48_code 132 = .ok (.ifCond .ne 23, 3) := by decide +kernel
theorem d_Model_addresses_135 : decode prog_11_method_48_code 135 = .ok (.iload 4, 2) := by decide +kernel
theorem d_Model_addresses_137 : decode prog_11_method_48_code 137 = .ok (.ifCond .ne 18, 3) := by decide +kernel
theorem d_Model_addresses_140 : decode prog_11_method_48_code 140 = .ok (.aload_n 0, 1) := by decide +kernel
theorem d_Model_addresses_141 : decode prog_11_method_48_code 141 = .ok (.iload 5, 2) := by decide +kernel
theorem d_Model_addresses_143 : decode prog_11_method_48_code 143 = .ok (.bipush 58, 2) := by decide +kernel
theorem d_Model_addresses_145 : decode prog_11_method_48_code 145 = .ok (.invokevirtual 200, 3) := by decide +kernel
theorem d_Model_addresses_148 : decode prog_11_method_48_code 148 = .ok (.ifCond .eq 7, 3) := by decide +kernel
theorem d_Model_addresses_151 : decode prog_11_method_48_code 151 = .ok (.iconst 1, 1) := by decide +kernel
theorem d_Model_addresses_152 : decode prog_11_method_48_code 152 = .ok (.goto 4, 3) := by decide +kernel
theorem d_Model_addresses_155 : decode prog_11_method_48_code 155 = .ok (.iconst 0, 1) := by decide +kernel
theorem d_Model_addresses_156 : decode prog_11_method_48_code 156 = .ok (.istore 7, 2) := by decide +kernel
theorem d_Model_addresses_158 : decode prog_11_method_48_code 158 = .ok (.iload 6, 2) := by decide +kernel
theorem d_Model_addresses_160 : decode prog_11_method_48_code 160 = .ok (.ifCond .ne 35, 3) := by decide +kernel
theorem d_Model_addresses_163 : decode prog_11_method_48_code 163 = .ok (.iload 4, 2) := by decide +kernel
theorem d_Model_addresses_165 : decode prog_11_method_48_code 165 = .ok (.ifCond .ne 34, 3) := by decide +kernel
theorem d_Model_addresses_168 : decode prog_11_method_48_code 168 = .ok (.iload 7, 2) := by decide +kernel
theorem d_Model_addresses_170 : decode prog_11_method_48_code 170 = .ok (.ifCond .ne 25, 3) := by decide +kernel
theorem d_Model_addresses_173 : decode prog_11_method_48_code 173 = .ok (.aload_n 0, 1) := by decide +kernel
theorem d_Model_addresses_174 : decode prog_11_method_48_code 174 = .ok (.iload 5, 2) := by decide +kernel
theorem d_Model_addresses_176 : decode prog_11_method_48_code 176 = .ok (.bipush 44, 2) := by decide +kernel
theorem d_Model_addresses_178 : decode prog_11_method_48_code 178 = .ok (.invokevirtual 200, 3) := by decide +kernel
theorem d_Model_addresses_181 : decode prog_11_method_48_code 181 = .ok (.ifCond .ne 14, 3) := by decide +kernel
theorem d_Model_addresses_184 : decode prog_11_method_48_code 184 = .ok (.aload_n 0, 1) := by decide +kernel
theorem d_Model_addresses_185 : decode prog_11_method_48_code 185 = .ok (.iload 5, 2) := by decide +kernel
theorem d_Model_addresses_187 : decode prog_11_method_48_code 187 = .ok (.bipush 59, 2) := by decide +kernel
theorem d_Model_addresses_189 : decode prog_11_method_48_code 189 = .ok (.invokevirtual 200, 3) := by decide +kernel
theorem d_Model_addresses_192 : decode prog_11_method_48_code 192 = .ok (.ifCond .eq 7, 3) := by decide +kernel
theorem d_Model_addresses_195 : decode prog_11_method_48_code 195 = .ok (.iconst 1, 1) := by decide +kernel
theorem d_Model_addresses_196 : decode prog_11_method_48_code 196 = .ok (.goto 4, 3) := by decide +kernel
theorem d_Model_addresses_199 : decode prog_11_method_48_code 199 = .ok (.iconst 0, 1) := by decide +kernel
theorem d_Model_addresses_200 : decode prog_11_method_48_code 200 = .ok (.istore 8, 2) := by decide +kernel
theorem d_Model_addresses_202 : decode prog_11_method_48_code 202 = .ok (.iload 8, 2) := by decide +kernel
theorem d_Model_addresses_204 : decode prog_11_method_48_code 204 = .ok (.ifCond .eq 81, 3) := by decide +kernel
theorem d_Model_addresses_207 : decode prog_11_method_48_code 207 = .ok (.iload 7, 2) := by decide +kernel
theorem d_Model_addresses_209 : decode prog_11_method_48_code 209 = .ok (.ifCond .eq 25, 3) := by decide +kernel
theorem d_Model_addresses_212 : decode prog_11_method_48_code 212 = .ok (.iload_n 2, 1) := by decide +kernel
theorem d_Model_addresses_213 : decode prog_11_method_48_code 213 = .ok (.iconst (-1), 1) := by decide +kernel
theorem d_Model_addresses_214 : decode prog_11_method_48_code 214 = .ok (.if_icmp .ne 20, 3) := by decide +kernel
theorem d_Model_addresses_217 : decode prog_11_method_48_code 217 = .ok (.aload_n 0, 1) := by decide +kernel
theorem d_Model_addresses_218 : decode prog_11_method_48_code 218 = .ok (.iload_n 3, 1) := by decide +kernel
theorem d_Model_addresses_219 : decode prog_11_method_48_code 219 = .ok (.iload 5, 2) := by decide +kernel
theorem d_Model_addresses_221 : decode prog_11_method_48_code 221 = .ok (.invokevirtual 258, 3) := by decide +kernel
theorem d_Model_addresses_224 : decode prog_11_method_48_code 224 = .ok (.aload_n 0, 1) := by decide +kernel
theorem d_Model_addresses_225 : decode prog_11_method_48_code 225 = .ok (.getfield 248, 3) := by decide +kernel
theorem d_Model_addresses_228 : decode prog_11_method_48_code 228 = .ok (.iconst 1, 1) := by decide +kernel
theorem d_Model_addresses_229 : decode prog_11_method_48_code 229 = .ok (.isub, 1) := by decide +kernel
theorem d_Model_addresses_230 : decode prog_11_method_48_code 230 = .ok (.istore_n 2, 1) := by decide +kernel
theorem d_Model_addresses_231 : decode prog_11_method_48_code 231 = .ok (.goto 31, 3) := by decide +kernel
theorem d_Model_addresses_234 : decode prog_11_method_48_code 234 = .ok (.iload 7, 2) := by decide +kernel
theorem d_Model_addresses_236 : decode prog_11_method_48_code 236 = .ok (.ifCond .eq 16, 3) := by decide +kernel
theorem d_Model_addresses_239 : decode prog_11_method_48_code 239 = .ok (.aload_n 0, 1) := by decide +kernel
theorem d_Model_addresses_240 : decode prog_11_method_48_code 240 = .ok (.dup, 1) := by decide +kernel
theorem d_Model_addresses_241 : decode prog_11_method_48_code 241 = .ok (.getfield 227, 3) := by decide +kernel
theorem d_Model_addresses_244 : decode prog_11_method_48_code 244 = .ok (.iconst 1, 1) := by decide +kernel
theorem d_Model_addresses_245 : decode prog_11_method_48_code 245 = .ok (.iadd, 1) := by decide +kernel
theorem d_Model_addresses_246 : decode prog_11_method_48_code 246 = .ok (.putfield 227, 3) := by decide +kernel
theorem d_Model_addresses_249 : decode prog_11_method_48_code 249 = .ok (.goto 13, 3) := by decide +kernel
theorem d_Model_addresses_252 : decode prog_11_method_48_code 252 = .ok (.aload_n 0, 1) := by decide +kernel
theorem d_Model_addresses_253 : decode prog_11_method_48_code 253 = .ok (.iload_n 3, 1) := by decide +kernel
theorem d_Model_addresses_254 : decode prog_11_method_48_code 254 = .ok (.iload 5, 2) := by decide +kernel
theorem d_Model_addresses_256 : decode prog_11_method_48_code 256 = .ok (.iload 4, 2) := by decide +kernel
theorem d_Model_addresses_258 : decode prog_11_method_48_code 258 = .ok (.iload_n 2, 1) := by decide +kernel
theorem d_Model_addresses_259 : decode prog_11_method_48_code 259 = .ok (.invokevirtual 261, 3) := by decide +kernel
theorem d_Model_addresses_262 : decode prog_11_method_48_code 262 = .ok (.iload 6, 2) := by decide +kernel
theorem d_Model_addresses_264 : decode prog_11_method_48_code 264 = .ok (.ifCond .ne 16, 3) := by decide +kernel
theorem d_Model_addresses_267 : decode prog_11_method_48_code 267 = .ok (.aload_n 0, 1) := by decide +kernel
theorem d_Model_addresses_268 : decode prog_11_method_48_code 268 = .ok (.iload 5, 2) := by decide +kernel
theorem d_Model_addresses_270 : decode prog_11_method_48_code 270 = .ok (.bipush 59, 2) := by decide +kernel
theorem d_Model_addresses_272 : decode prog_11_method_48_code 272 = .ok (.invokevirtual 200, 3) := by decide +kernel
theorem d_Model_addresses_275 : decode prog_11_method_48_code 275 = .ok (.ifCond .eq 5, 3) := by decide +kernel
theorem d_Model_addresses_278 : decode prog_11_method_48_code 278 = .ok (.iconst (-1), 1) := by decide +kernel
theorem d_Model_addresses_279 : decode prog_11_method_48_code 279 = .ok (.istore_n 2, 1) := by decide +kernel
theorem d_Model_addresses_280 : decode prog_11_method_48_code 280 = .ok (.iload 5, 2) := by decide +kernel
theorem d_Model_addresses_282 : decode prog_11_method_48_code 282 = .ok (.iconst 1, 1) := by decide +kernel
theorem d_Model_addresses_283 : decode prog_11_method_48_code 283 = .ok (.iadd, 1) := by decide +kernel
theorem d_Model_addresses_284 : decode prog_11_method_48_code 284 = .ok (.istore_n 3, 1) := by decide +kernel
theorem d_Model_addresses_285 : decode prog_11_method_48_code 285 = .ok (.iinc 5 1, 3) := by decide +kernel
theorem d_Model_addresses_288 : decode prog_11_method_48_code 288 = .ok (.goto (-229), 3) := by decide +kernel
theorem d_Model_addresses_291 : decode prog_11_method_48_code 291 = .ok (.aload_n 0, 1) := by decide +kernel
theorem d_Model_addresses_292 : decode prog_11_method_48_code 292 = .ok (.getfield 52, 3) := by decide +kernel
theorem d_Model_addresses_295 : decode prog_11_method_48_code 295 = .ok (.iconst 1, 1) := by decide +kernel
theorem d_Model_addresses_296 : decode prog_11_method_48_code 296 = .ok (.iaload, 1) := by decide +kernel
theorem d_Model_addresses_297 : decode prog_11_method_48_code 297 = .ok (.ireturn, 1) := by decide +kernel
theorem d_Model_makeSmall_0 : decode prog_11_method_65_code 0 = .ok (.aload_n 0, 1) := by decide +kernel
theorem d_Model_makeSmall_1 : decode prog_11_method_65_code 1 = .ok (.iload_n 1, 1) := by decide +kernel
theorem d_Model_makeSmall_2 : decode prog_11_method_65_code 2 = .ok (.invokevirtual 204, 3) := by decide +kernel
theorem d_Model_makeSmall_5 : decode prog_11_method_65_code 5 = .ok (.aload_n 0, 1) := by decide +kernel
theorem d_Model_makeSmall_6 : decode prog_11_method_65_code 6 = .ok (.getfield 37, 3) := by decide +kernel
theorem d_Model_makeSmall_9 : decode prog_11_method_65_code 9 = .ok (.iload_n 2, 1) := by decide +kernel
theorem d_Model_makeSmall_10 : decode prog_11_method_65_code 10 = .ok (.iaload, 1) := by decide +kernel
theorem d_Model_makeSmall_11 : decode prog_11_method_65_code 11 = .ok (.istore_n 3, 1) := by decide +kernel
theorem d_Model_makeSmall_12 : decode prog_11_method_65_code 12 = .ok (.iload_n 3, 1) := by decide +kernel
theorem d_Model_makeSmall_13 : decode prog_11_method_65_code 13 = .ok (.aload_n 0, 1) := by decide +kernel
theorem d_Model_makeSmall_14 : decode prog_11_method_65_code 14 = .ok (.getfield 40, 3) := by decide +kernel
theorem d_Model_makeSmall_17 : decode prog_11_method_65_code 17 = .ok (.iload_n 2, 1) := by decide +kernel
theorem d_Model_makeSmall_18 : decode prog_11_method_65_code 18 = .ok (.iaload, 1) := by decide +kernel
theorem d_Model_makeSmall_19 : decode prog_11_method_65_code 19 = .ok (.if_icmp .ge 23, 3) := by decide +kernel
theorem d_Model_makeSmall_22 : decode prog_11_method_65_code 22 = .ok (.aload_n 0, 1) := by decide +kernel
theorem d_Model_makeSmall_23 : decode prog_11_method_65_code 23 = .ok (.iload_n 1, 1) := by decide +kernel
theorem d_Model_makeSmall_24 : decode prog_11_method_65_code 24 = .ok (.aload_n 0, 1) := by decide +kernel
theorem d_Model_makeSmall_25 : decode prog_11_method_65_code 25 = .ok (.getfield 43, 3) := by decide +kernel
theorem d_Model_makeSmall_28 : decode prog_11_method_65_code 28 = .ok (.iload_n 3, 1) := by decide +kernel
theorem d_Model_makeSmall_29 : decode prog_11_method_65_code 29 = .ok (.iaload, 1) := by decide +kernel
theorem d_Model_makeSmall_30 : decode prog_11_method_65_code 30 = .ok (.invokestatic 133, 3) := by decide +kernel
theorem d_Model_makeSmall_33 : decode prog_11_method_65_code 33 = .ok (.invokevirtual 191, 3) := by decide +kernel
theorem d_Model_makeSmall_36 : decode prog_11_method_65_code 36 = .ok (.iinc 3 1, 3) := by decide +kernel
theorem d_Model_makeSmall_39 : decode prog_11_method_65_code 39 = .ok (.goto (-27), 3) := by decide +kernel
theorem d_Model_makeSmall_42 : decode prog_11_method_65_code 42 = .ok (.aload_n 0, 1) := by decide +kernel
theorem d_Model_makeSmall_43 : decode prog_11_method_65_code 43 = .ok (.iload_n 1, 1) := by decide +kernel
theorem d_Model_makeSmall_44 : decode prog_11_method_65_code 44 = .ok (.invokevirtual 210, 3) := by decide +kernel
theorem d_Model_makeSmall_47 : decode prog_11_method_65_code 47 = .ok (.return_, 1) := by decide +kernel
theorem d_Model_takeParameter_0 : decode prog_11_method_67_code 0 = .ok (.aload_n 0, 1) := by decide +kernel
theorem d_Model_takeParameter_1 : decode prog_11_method_67_code 1 = .ok (.iload_n 1, 1) := by decide +kernel
theorem d_Model_takeParameter_2 : decode prog_11_method_67_code 2 = .ok (.aload_n 0, 1) := by decide +kernel
theorem d_Model_takeParameter_3 : decode prog_11_method_67_code 3 = .ok (.getfield 149, 3) := by decide +kernel
theorem d_Model_takeParameter_6 : decode prog_11_method_67_code 6 = .ok (.invokevirtual 197, 3) := by decide +kernel
theorem d_Model_takeParameter_9 : decode prog_11_method_67_code 9 = .ok (.istore_n 2, 1) := by decide +kernel
theorem d_Model_takeParameter_10 : decode prog_11_method_67_code 10 = .ok (.aload_n 0, 1) := by decide +kernel
theorem d_Model_takeParameter_11 : decode prog_11_method_67_code 11 = .ok (.iload_n 2, 1) := by decide +kernel
theorem d_Model_takeParameter_12 : decode prog_11_method_67_code 12 = .ok (.iconst 1, 1) := by decide +kernel
theorem d_Model_takeParameter_13 : decode prog_11_method_67_code 13 = .ok (.iadd, 1) := by decide +kernel
theorem d_Model_takeParameter_14 : decode prog_11_method_67_code 14 = .ok (.aload_n 0, 1) := by decide +kernel
theorem d_Model_takeParameter_15 : decode prog_11_method_67_code 15 = .ok (.getfield 149, 3) := by decide +kernel
theorem d_Model_takeParameter_18 : decode prog_11_method_67_code 18 = .ok (.invokevirtual 197, 3) := by decide +kernel
theorem d_Model_takeParameter_21 : decode prog_11_method_67_code 21 = .ok (.istore_n 3, 1) := by decide +kernel
theorem d_Model_takeParameter_22 : decode prog_11_method_67_code 22 = .ok (.aload_n 0, 1) := by decide +kernel
theorem d_Model_takeParameter_23 : decode prog_11_method_67_code 23 = .ok (.iload_n 3, 1) := by decide +kernel
theorem d_Model_takeParameter_24 : decode prog_11_method_67_code 24 = .ok (.iconst 1, 1) := by decide +kernel
theorem d_Model_takeParameter_25 : decode prog_11_method_67_code 25 = .ok (.iadd, 1) := by decide +kernel
theorem d_Model_takeParameter_26 : decode prog_11_method_67_code 26 = .ok (.aload_n 0, 1) := by decide +kernel
theorem d_Model_takeParameter_27 : decode prog_11_method_67_code 27 = .ok (.getfield 149, 3) := by decide +kernel
theorem d_Model_takeParameter_30 : decode prog_11_method_67_code 30 = .ok (.invokevirtual 197, 3) := by decide +kernel
theorem d_Model_takeParameter_33 : decode prog_11_method_67_code 33 = .ok (.istore 4, 2) := by decide +kernel
theorem d_Model_takeParameter_35 : decode prog_11_method_67_code 35 = .ok (.iload 4, 2) := by decide +kernel
theorem d_Model_takeParameter_37 : decode prog_11_method_67_code 37 = .ok (.aload_n 0, 1) := by decide +kernel
theorem d_Model_takeParameter_38 : decode prog_11_method_67_code 38 = .ok (.getfield 149, 3) := by decide +kernel
theorem d_Model_takeParameter_41 : decode prog_11_method_67_code 41 = .ok (.if_icmp .ge 45, 3) := by decide +kernel
theorem d_Model_takeParameter_44 : decode prog_11_method_67_code 44 = .ok (.aload_n 0, 1) := by decide +kernel
theorem d_Model_takeParameter_45 : decode prog_11_method_67_code 45 = .ok (.getfield 31, 3) := by decide +kernel
theorem d_Model_takeParameter_48 : decode prog_11_method_67_code 48 = .ok (.iload_n 2, 1) := by decide +kernel
theorem d_Model_takeParameter_49 : decode prog_11_method_67_code 49 = .ok (.iaload, 1) := by decide +kernel
theorem d_Model_takeParameter_50 : decode prog_11_method_67_code 50 = .ok (.iconst 4, 1) := by decide +kernel
theorem d_Model_takeParameter_51 : decode prog_11_method_67_code 51 = .ok (.if_icmp .ne 35, 3) := by decide +kernel
theorem d_Model_takeParameter_54 : decode prog_11_method_67_code 54 = .ok (.aload_n 0, 1) := by decide +kernel
theorem d_Model_takeParameter_55 : decode prog_11_method_67_code 55 = .ok (.iload_n 3, 1) := by decide +kernel
theorem d_Model_takeParameter_56 : decode prog_11_method_67_code 56 = .ok (.bipush 61, 2) := by decide +kernel
theorem d_Model_takeParameter_58 : decode prog_11_method_67_code 58 = .ok (.invokevirtual 200, 3) := by decide +kernel
theorem d_Model_takeParameter_61 : decode prog_11_method_67_code 61 = .ok (.ifCond .eq 25, 3) := by decide +kernel
theorem d_Model_takeParameter_64 : decode prog_11_method_67_code 64 = .ok (.aload_n 0, 1) := by decide +kernel
theorem d_Model_takeParameter_65 : decode prog_11_method_67_code 65 = .ok (.getfield 31, 3) := by decide +kernel
theorem d_Model_takeParameter_68 : decode prog_11_method_67_code 68 = .ok (.iload 4, 2) := by decide +kernel
theorem d_Model_takeParameter_70 : decode prog_11_method_67_code 70 = .ok (.iaload, 1) := by decide +kernel
theorem d_Model_takeParameter_71 : decode prog_11_method_67_code 71 = .ok (.iconst 4, 1) := by decide +kernel
theorem d_Model_takeParameter_72 : decode prog_11_method_67_code 72 = .ok (.if_icmp .eq 15, 3) := by decide +kernel
theorem d_Model_takeParameter_75 : decode prog_11_method_67_code 75 = .ok (.aload_n 0, 1) := by decide +kernel
theorem d_Model_takeParameter_76 : decode prog_11_method_67_code 76 = .ok (.getfield 31, 3) := by decide +kernel
theorem d_Model_takeParameter_79 : decode prog_11_method_67_code 79 = .ok (.iload 4, 2) := by decide +kernel
theorem d_Model_takeParameter_81 : decode prog_11_method_67_code 81 = .ok (.iaload, 1) := by decide +kernel
theorem d_Model_takeParameter_82 : decode prog_11_method_67_code 82 = .ok (.iconst 1, 1) := by decide +kernel
theorem d_Model_takeParameter_83 : decode prog_11_method_67_code 83 = .ok (.if_icmp .eq 4, 3) := by decide +kernel
theorem d_Model_takeParameter_86 : decode prog_11_method_67_code 86 = .ok (.return_, 1) := by decide +kernel
theorem d_Model_takeParameter_87 : decode prog_11_method_67_code 87 = .ok (.aload_n 0, 1) := by decide +kernel
theorem d_Model_takeParameter_88 : decode prog_11_method_67_code 88 = .ok (.getfield 40, 3) := by decide +kernel
theorem d_Model_takeParameter_91 : decode prog_11_method_67_code 91 = .ok (.iload_n 2, 1) := by decide +kernel
theorem d_Model_takeParameter_92 : decode prog_11_method_67_code 92 = .ok (.iaload, 1) := by decide +kernel
theorem d_Model_takeParameter_93 : decode prog_11_method_67_code 93 = .ok (.istore 5, 2) := by decide +kernel
theorem d_Model_takeParameter_95 : decode prog_11_method_67_code 95 = .ok (.iload 5, 2) := by decide +kernel
theorem d_Model_takeParameter_97 : decode prog_11_method_67_code 97 = .ok (.aload_n 0, 1) := by decide +kernel
theorem d_Model_takeParameter_98 : decode prog_11_method_67_code 98 = .ok (.getfield 37, 3) := by decide +kernel
theorem d_Model_takeParameter_101 : decode prog_11_method_67_code 101 = .ok (.iload_n 2, 1) := by decide +kernel
theorem d_Model_takeParameter_102 : decode prog_11_method_67_code 102 = .ok (.iaload, 1) := by decide +kernel
theorem d_Model_takeParameter_103 : decode prog_11_method_67_code 103 = .ok (.if_icmp .le 21, 3) := by decide +kernel
theorem d_Model_takeParameter_106 : decode prog_11_method_67_code 106 = .ok (.aload_n 0, 1) := by decide +kernel
theorem d_Model_takeParameter_107 : decode prog_11_method_67_code 107 = .ok (.getfield 43, 3) := by decide +kernel
theorem d_Model_takeParameter_110 : decode prog_11_method_67_code 110 = .ok (.iload 5, 2) := by decide +kernel
theorem d_Model_takeParameter_112 : decode prog_11_method_67_code 112 = .ok (.iconst 1, 1) := by decide +kernel
theorem d_Model_takeParameter_113 : decode prog_11_method_67_code 113 = .ok (.isub, 1) := by decide +kernel
theorem d_Model_takeParameter_114 : decode prog_11_method_67_code 114 = .ok (.iaload, 1) := by decide +kernel
theorem d_Model_takeParameter_115 : decode prog_11_method_67_code 115 = .ok (.bipush 42, 2) := by decide +kernel
theorem d_Model_takeParameter_117 : decode prog_11_method_67_code 117 = .ok (.if_icmp .ne 7, 3) := by decide +kernel
theorem d_Model_takeParameter_120 : decode prog_11_method_67_code 120 = .ok (.iconst 1, 1) := by decide +kernel
theorem d_Model_takeParameter_121 : decode prog_11_method_67_code 121 = .ok (.goto 4, 3) := by decide +kernel
theorem d_Model_takeParameter_124 : decode prog_11_method_67_code 124 = .ok (.iconst 0, 1) := by decide +kernel
theorem d_Model_takeParameter_125 : decode prog_11_method_67_code 125 = .ok (.istore 6, 2) := by decide +kernel
theorem d_Model_takeParameter_127 : decode prog_11_method_67_code 127 = .ok (.iload 6, 2) := by decide +kernel
theorem d_Model_takeParameter_129 : decode prog_11_method_67_code 129 = .ok (.ifCond .eq 6, 3) := by decide +kernel
theorem d_Model_takeParameter_132 : decode prog_11_method_67_code 132 = .ok (.iinc 5 (-1), 3) := by decide +kernel
theorem d_Model_takeParameter_135 : decode prog_11_method_67_code 135 = .ok (.iconst (-1), 1) := by decide +kernel
theorem d_Model_takeParameter_136 : decode prog_11_method_67_code 136 = .ok (.istore 7, 2) := by decide +kernel
theorem d_Model_takeParameter_138 : decode prog_11_method_67_code 138 = .ok (.iload 5, 2) := by decide +kernel
theorem d_Model_takeParameter_140 : decode prog_11_method_67_code 140 = .ok (.aload_n 0, 1) := by decide +kernel
theorem d_Model_takeParameter_141 : decode prog_11_method_67_code 141 = .ok (.getfield 37, 3) := by decide +kernel
theorem d_Model_takeParameter_144 : decode prog_11_method_67_code 144 = .ok (.iload_n 2, 1) := by decide +kernel
theorem d_Model_takeParameter_145 : decode prog_11_method_67_code 145 = .ok (.iaload, 1) := by decide +kernel
theorem d_Model_takeParameter_146 : decode prog_11_method_67_code 146 = .ok (.isub, 1) := by decide +kernel
theorem d_Model_takeParameter_147 : decode prog_11_method_67_code 147 = .ok (.iconst 2, 1) := by decide +kernel
theorem d_Model_takeParameter_148 : decode prog_11_method_67_code 148 = .ok (.if_icmp .lt 49, 3) := by decide +kernel
theorem d_Model_takeParameter_151 : decode prog_11_method_67_code 151 = .ok (.aload_n 0, 1) := by decide +kernel
theorem d_Model_takeParameter_152 : decode prog_11_method_67_code 152 = .ok (.getfield 43, 3) := by decide +kernel
theorem d_Model_takeParameter_155 : decode prog_11_method_67_code 155 = .ok (.iload 5, 2) := by decide +kernel
theorem d_Model_takeParameter_157 : decode prog_11_method_67_code 157 = .ok (.iconst 1, 1) := by decide +kernel
theorem d_Model_takeParameter_158 : decode prog_11_method_67_code 158 = .ok (.isub, 1) := by decide +kernel
theorem d_Model_takeParameter_159 : decode prog_11_method_67_code 159 = .ok (.iaload, 1) := by decide +kernel
theorem d_Model_takeParameter_160 : decode prog_11_method_67_code 160 = .ok (.invokestatic 271, 3) := by decide +kernel
theorem d_Model_takeParameter_163 : decode prog_11_method_67_code 163 = .ok (.ifCond .eq 34, 3) := by decide +kernel
theorem d_Model_takeParameter_166 : decode prog_11_method_67_code 166 = .ok (.aload_n 0, 1) := by decide +kernel
theorem d_Model_takeParameter_167 : decode prog_11_method_67_code 167 = .ok (.getfield 43, 3) := by decide +kernel
theorem d_Model_takeParameter_170 : decode prog_11_method_67_code 170 = .ok (.iload 5, 2) := by decide +kernel
theorem d_Model_takeParameter_172 : decode prog_11_method_67_code 172 = .ok (.iconst 2, 1) := by decide +kernel
theorem d_Model_takeParameter_173 : decode prog_11_method_67_code 173 = .ok (.isub, 1) := by decide +kernel
theorem d_Model_takeParameter_174 : decode prog_11_method_67_code 174 = .ok (.iaload, 1) := by decide +kernel
theorem d_Model_takeParameter_175 : decode prog_11_method_67_code 175 = .ok (.bipush 42, 2) := by decide +kernel
theorem d_Model_takeParameter_177 : decode prog_11_method_67_code 177 = .ok (.if_icmp .ne 20, 3) := by decide +kernel
theorem d_Model_takeParameter_180 : decode prog_11_method_67_code 180 = .ok (.aload_n 0, 1) := by decide +kernel
theorem d_Model_takeParameter_181 : decode prog_11_method_67_code 181 = .ok (.getfield 43, 3) := by decide +kernel
theorem d_Model_takeParameter_184 : decode prog_11_method_67_code 184 = .ok (.iload 5, 2) := by decide +kernel
theorem d_Model_takeParameter_186 : decode prog_11_method_67_code 186 = .ok (.iconst 1, 1) := by decide +kernel
theorem d_Model_takeParameter_187 : decode prog_11_method_67_code 187 = .ok (.isub, 1) := by decide +kernel
theorem d_Model_takeParameter_188 : decode prog_11_method_67_code 188 = .ok (.iaload, 1) := by decide +kernel
theorem d_Model_takeParameter_189 : decode prog_11_method_67_code 189 = .ok (.bipush 48, 2) := by decide +kernel
theorem d_Model_takeParameter_191 : decode prog_11_method_67_code 191 = .ok (.isub, 1) := by decide +kernel
theorem d_Model_takeParameter_192 : decode prog_11_method_67_code 192 = .ok (.istore 7, 2) := by decide +kernel
theorem d_Model_takeParameter_194 : decode prog_11_method_67_code 194 = .ok (.iinc 5 (-2), 3) := by decide +kernel
theorem d_Model_takeParameter_197 : decode prog_11_method_67_code 197 = .ok (.iload 5, 2) := by decide +kernel
theorem d_Model_takeParameter_199 : decode prog_11_method_67_code 199 = .ok (.aload_n 0, 1) := by decide +kernel
theorem d_Model_takeParameter_200 : decode prog_11_method_67_code 200 = .ok (.getfield 37, 3) := by decide +kernel
theorem d_Model_takeParameter_203 : decode prog_11_method_67_code 203 = .ok (.iload_n 2, 1) := by decide +kernel
theorem d_Model_takeParameter_204 : decode prog_11_method_67_code 204 = .ok (.iaload, 1) := by decide +kernel
theorem d_Model_takeParameter_205 : decode prog_11_method_67_code 205 = .ok (.if_icmp .ne 4, 3) := by decide +kernel
theorem d_Model_takeParameter_208 : decode prog_11_method_67_code 208 = .ok (.return_, 1) := by decide +kernel
theorem d_Model_takeParameter_209 : decode prog_11_method_67_code 209 = .ok (.aload_n 0, 1) := by decide +kernel
theorem d_Model_takeParameter_210 : decode prog_11_method_67_code 210 = .ok (.getfield 64, 3) := by decide +kernel
theorem d_Model_takeParameter_213 : decode prog_11_method_67_code 213 = .ok (.aload_n 0, 1) := by decide +kernel
theorem d_Model_takeParameter_214 : decode prog_11_method_67_code 214 = .ok (.getfield 347, 3) := by decide +kernel
theorem d_Model_takeParameter_217 : decode prog_11_method_67_code 217 = .ok (.aload_n 0, 1) := by decide +kernel
theorem d_Model_takeParameter_218 : decode prog_11_method_67_code 218 = .ok (.getfield 37, 3) := by decide +kernel
theorem d_Model_takeParameter_221 : decode prog_11_method_67_code 221 = .ok (.iload_n 2, 1) := by decide +kernel
theorem d_Model_takeParameter_222 : decode prog_11_method_67_code 222 = .ok (.iaload, 1) := by decide +kernel
theorem d_Model_takeParameter_223 : decode prog_11_method_67_code 223 = .ok (.iastore, 1) := by decide +kernel
theorem d_Model_takeParameter_224 : decode prog_11_method_67_code 224 = .ok (.aload_n 0, 1) := by decide +kernel
theorem d_Model_takeParameter_225 : decode prog_11_method_67_code 225 = .ok (.getfield 67, 3) := by decide +kernel
theorem d_Model_takeParameter_228 : decode prog_11_method_67_code 228 = .ok (.aload_n 0, 1) := by decide +kernel
theorem d_Model_takeParameter_229 : decode prog_11_method_67_code 229 = .ok (.getfield 347, 3) := by decide +kernel
theorem d_Model_takeParameter_232 : decode prog_11_method_67_code 232 = .ok (.iload 5, 2) := by decide +kernel
theorem d_Model_takeParameter_234 : decode prog_11_method_67_code 234 = .ok (.iastore, 1) := by decide +kernel
theorem d_Model_takeParameter_235 : decode prog_11_method_67_code 235 = .ok (.aload_n 0, 1) := by decide +kernel
theorem d_Model_takeParameter_236 : decode prog_11_method_67_code 236 = .ok (.getfield 70, 3) := by decide +kernel
theorem d_Model_takeParameter_239 : decode prog_11_method_67_code 239 = .ok (.aload_n 0, 1) := by decide +kernel
theorem d_Model_takeParameter_240 : decode prog_11_method_67_code 240 = .ok (.getfield 347, 3) := by decide +kernel
theorem d_Model_takeParameter_243 : decode prog_11_method_67_code 243 = .ok (.iload 7, 2) := by decide +kernel
theorem d_Model_takeParameter_245 : decode prog_11_method_67_code 245 = .ok (.iastore, 1) := by decide +kernel
theorem d_Model_takeParameter_246 : decode prog_11_method_67_code 246 = .ok (.aload_n 0, 1) := by decide +kernel
theorem d_Model_takeParameter_247 : decode prog_11_method_67_code 247 = .ok (.getfield 73, 3) := by decide +kernel
theorem d_Model_takeParameter_250 : decode prog_11_method_67_code 250 = .ok (.aload_n 0, 1) := by decide +kernel
theorem d_Model_takeParameter_251 : decode prog_11_method_67_code 251 = .ok (.getfield 347, 3) := by decide +kernel
theorem d_Model_takeParameter_254 : decode prog_11_method_67_code 254 = .ok (.iload 6, 2) := by decide +kernel
theorem d_Model_takeParameter_256 : decode prog_11_method_67_code 256 = .ok (.bastore, 1) := by decide +kernel
theorem d_Model_takeParameter_257 : decode prog_11_method_67_code 257 = .ok (.aload_n 0, 1) := by decide +kernel
theorem d_Model_takeParameter_258 : decode prog_11_method_67_code 258 = .ok (.getfield 77, 3) := by decide +kernel
theorem d_Model_takeParameter_261 : decode prog_11_method_67_code 261 = .ok (.aload_n 0, 1) := by decide +kernel
theorem d_Model_takeParameter_262 : decode prog_11_method_67_code 262 = .ok (.getfield 347, 3) := by decide +kernel
theorem d_Model_takeParameter_265 : decode prog_11_method_67_code 265 = .ok (.aload_n 0, 1) := by decide +kernel
theorem d_Model_takeParameter_266 : decode prog_11_method_67_code 266 = .ok (.getfield 37, 3) := by decide +kernel
theorem d_Model_takeParameter_269 : decode prog_11_method_67_code 269 = .ok (.iload 4, 2) := by decide +kernel
theorem d_Model_takeParameter_271 : decode prog_11_method_67_code 271 = .ok (.iaload, 1) := by decide +kernel
theorem d_Model_takeParameter_272 : decode prog_11_method_67_code 272 = .ok (.iastore, 1) := by decide +kernel
theorem d_Model_takeParameter_273 : decode prog_11_method_67_code 273 = .ok (.aload_n 0, 1) := by decide +kernel
theorem d_Model_takeParameter_274 : decode prog_11_method_67_code 274 = .ok (.getfield 80, 3) := by decide +kernel
theorem d_Model_takeParameter_277 : decode prog_11_method_67_code 277 = .ok (.aload_n 0, 1) := by decide +kernel
theorem d_Model_takeParameter_278 : decode prog_11_method_67_code 278 = .ok (.getfield 347, 3) := by decide +kernel
theorem d_Model_takeParameter_281 : decode prog_11_method_67_code 281 = .ok (.aload_n 0, 1) := by decide +kernel
theorem d_Model_takeParameter_282 : decode prog_11_method_67_code 282 = .ok (.getfield 40, 3) := by decide +kernel
theorem d_Model_takeParameter_285 : decode prog_11_method_67_code 285 = .ok (.iload 4, 2) := by decide +kernel
theorem d_Model_takeParameter_287 : decode prog_11_method_67_code 287 = .ok (.iaload, 1) := by decide +kernel
theorem d_Model_takeParameter_288 : decode prog_11_method_67_code 288 = .ok (.iastore, 1) := by decide +kernel
theorem d_Model_takeParameter_289 : decode prog_11_method_67_code 289 = .ok (.aload_n 0, 1) := by decide +kernel
theorem d_Model_takeParameter_290 : decode prog_11_method_67_code 290 = .ok (.dup, 1) := by decide +kernel
theorem d_Model_takeParameter_291 : decode prog_11_method_67_code 291 = .ok (.getfield 347, 3) := by decide +kernel
theorem d_Model_takeParameter_294 : decode prog_11_method_67_code 294 = .ok (.iconst 1, 1) := by decide +kernel
theorem d_Model_takeParameter_295 : decode prog_11_method_67_code 295 = .ok (.iadd, 1) := by decide +kernel
theorem d_Model_takeParameter_296 : decode prog_11_method_67_code 296 = .ok (.putfield 347, 3) := by decide +kernel
theorem d_Model_takeParameter_299 : decode prog_11_method_67_code 299 = .ok (.return_, 1) := by decide +kernel
theorem d_Model_type_0 : decode prog_11_method_66_code 0 = .ok (.aload_n 0, 1) := by decide +kernel
theorem d_Model_type_1 : decode prog_11_method_66_code 1 = .ok (.aload_n 0, 1) := by decide +kernel
theorem d_Model_type_2 : decode prog_11_method_66_code 2 = .ok (.iload_n 1, 1) := by decide +kernel
theorem d_Model_type_3 : decode prog_11_method_66_code 3 = .ok (.invokevirtual 137, 3) := by decide +kernel
theorem d_Model_type_6 : decode prog_11_method_66_code 6 = .ok (.ifCond .eq 7, 3) := by decide +kernel
theorem d_Model_type_9 : decode prog_11_method_66_code 9 = .ok (.iconst 0, 1) := by decide +kernel
theorem d_Model_type_10 : decode prog_11_method_66_code 10 = .ok (.goto 4, 3) := by decide +kernel
theorem d_Model_type_13 : decode prog_11_method_66_code 13 = .ok (.iconst 1, 1) := by decide +kernel
theorem d_Model_type_14 : decode prog_11_method_66_code 14 = .ok (.putfield 99, 3) := by decide +kernel
theorem d_Model_type_17 : decode prog_11_method_66_code 17 = .ok (.aload_n 0, 1) := by decide +kernel
theorem d_Model_type_18 : decode prog_11_method_66_code 18 = .ok (.getfield 99, 3) := by decide +kernel
theorem d_Model_type_21 : decode prog_11_method_66_code 21 = .ok (.ifCond .eq 5, 3) := by decide +kernel
theorem d_Model_type_24 : decode prog_11_method_66_code 24 = .ok (.iconst 0, 1) := by decide +kernel
theorem d_Model_type_25 : decode prog_11_method_66_code 25 = .ok (.ireturn, 1) := by decide +kernel
theorem d_Model_type_26 : decode prog_11_method_66_code 26 = .ok (.aload_n 0, 1) := by decide +kernel
theorem d_Model_type_27 : decode prog_11_method_66_code 27 = .ok (.iload_n 1, 1) := by decide +kernel
theorem d_Model_type_28 : decode prog_11_method_66_code 28 = .ok (.iconst 1, 1) := by decide +kernel
theorem d_Model_type_29 : decode prog_11_method_66_code 29 = .ok (.invokevirtual 251, 3) := by decide +kernel
theorem d_Model_type_32 : decode prog_11_method_66_code 32 = .ok (.aload_n 0, 1) := by decide +kernel
theorem d_Model_type_33 : decode prog_11_method_66_code 33 = .ok (.iconst 5, 1) := by decide +kernel
theorem d_Model_type_34 : decode prog_11_method_66_code 34 = .ok (.bipush 6, 2) := by decide +kernel
theorem d_Model_type_36 : decode prog_11_method_66_code 36 = .ok (.iconst 2, 1) := by decide +kernel
theorem d_Model_type_37 : decode prog_11_method_66_code 37 = .ok (.invokevirtual 255, 3) := by decide +kernel
theorem d_Model_type_40 : decode prog_11_method_66_code 40 = .ok (.aload_n 0, 1) := by decide +kernel
theorem d_Model_type_41 : decode prog_11_method_66_code 41 = .ok (.iconst 0, 1) := by decide +kernel
theorem d_Model_type_42 : decode prog_11_method_66_code 42 = .ok (.putfield 347, 3) := by decide +kernel
theorem d_Model_type_45 : decode prog_11_method_66_code 45 = .ok (.aload_n 0, 1) := by decide +kernel
theorem d_Model_type_46 : decode prog_11_method_66_code 46 = .ok (.iconst (-1), 1) := by decide +kernel
theorem d_Model_type_47 : decode prog_11_method_66_code 47 = .ok (.putfield 92, 3) := by decide +kernel
theorem d_Model_type_50 : decode prog_11_method_66_code 50 = .ok (.aload_n 0, 1) := by decide +kernel
theorem d_Model_type_51 : decode prog_11_method_66_code 51 = .ok (.iconst (-1), 1) := by decide +kernel
theorem d_Model_type_52 : decode prog_11_method_66_code 52 = .ok (.putfield 96, 3) := by decide +kernel
theorem d_Model_type_55 : decode prog_11_method_66_code 55 = .ok (.aload_n 0, 1) := by decide +kernel
theorem d_Model_type_56 : decode prog_11_method_66_code 56 = .ok (.iconst 0, 1) := by decide +kernel
theorem d_Model_type_57 : decode prog_11_method_66_code 57 = .ok (.aload_n 0, 1) := by decide +kernel
theorem d_Model_type_58 : decode prog_11_method_66_code 58 = .ok (.getfield 149, 3) := by decide +kernel
theorem d_Model_type_61 : decode prog_11_method_66_code 61 = .ok (.invokevirtual 197, 3) := by decide +kernel
theorem d_Model_type_64 : decode prog_11_method_66_code 64 = .ok (.istore_n 2, 1) := by decide +kernel
theorem d_Model_type_65 : decode prog_11_method_66_code 65 = .ok (.aload_n 0, 1) := by decide +kernel
