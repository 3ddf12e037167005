theorem d_Identities_readBytes_27 : decode prog_6_method_3_code 27 = .ok (.iload 5, 2) := by decide +kernel
theorem d_Identities_readBytes_29 : decode prog_6_method_3_code 29 = .ok (.invokevirtual 25, 3) := by decide +kernel
theorem d_Identities_readBytes_32 : decode prog_6_method_3_code 32 = .ok (.istore 6, 2) := by decide +kernel
theorem d_Identities_readBytes_34 : decode prog_6_method_3_code 34 = .ok (.iload 4, 2) := by decide +kernel
theorem d_Identities_readBytes_36 : decode prog_6_method_3_code 36 = .ok (.iconst (-1), 1) := by decide +kernel
theorem d_Identities_readBytes_37 : decode prog_6_method_3_code 37 = .ok (.if_icmp .ne 17, 3) := by decide +kernel
theorem d_Identities_readBytes_40 : decode prog_6_method_3_code 40 = .ok (.iload 6, 2) := by decide +kernel
theorem d_Identities_readBytes_42 : decode prog_6_method_3_code 42 = .ok (.bipush 60, 2) := by decide +kernel
theorem d_Identities_readBytes_44 : decode prog_6_method_3_code 44 = .ok (.if_icmp .ne 10, 3) := by decide +kernel
theorem d_Identities_readBytes_47 : decode prog_6_method_3_code 47 = .ok (.iload 5, 2) := by decide +kernel
theorem d_Identities_readBytes_49 : decode prog_6_method_3_code 49 = .ok (.istore 4, 2) := by decide +kernel
theorem d_Identities_readBytes_51 : decode prog_6_method_3_code 51 = .ok (.goto 31, 3) := by decide +kernel
theorem d_Identities_readBytes_54 : decode prog_6_method_3_code 54 = .ok (.iload 4, 2) := by decide +kernel
theorem d_Identities_readBytes_56 : decode prog_6_method_3_code 56 = .ok (.iconst (-1), 1) := by decide +kernel
theorem d_Identities_readBytes_57 : decode prog_6_method_3_code 57 = .ok (.if_icmp .eq 25, 3) := by decide +kernel
theorem d_Identities_readBytes_60 : decode prog_6_method_3_code 60 = .ok (.iload 6, 2) := by decide +kernel
theorem d_Identities_readBytes_62 : decode prog_6_method_3_code 62 = .ok (.bipush 62, 2) := by decide +kernel
theorem d_Identities_readBytes_64 : decode prog_6_method_3_code 64 = .ok (.if_icmp .ne 18, 3) := by decide +kernel
theorem d_Identities_readBytes_67 : decode prog_6_method_3_code 67 = .ok (.aload_n 0, 1) := by decide +kernel
theorem d_Identities_readBytes_68 : decode prog_6_method_3_code 68 = .ok (.aload_n 1, 1) := by decide +kernel
theorem d_Identities_readBytes_69 : decode prog_6_method_3_code 69 = .ok (.iload_n 2, 1) := by decide +kernel
theorem d_Identities_readBytes_70 : decode prog_6_method_3_code 70 = .ok (.iload 4, 2) := by decide +kernel
theorem d_Identities_readBytes_72 : decode prog_6_method_3_code 72 = .ok (.iconst 1, 1) := by decide +kernel
theorem d_Identities_readBytes_73 : decode prog_6_method_3_code 73 = .ok (.iadd, 1) := by decide +kernel
theorem d_Identities_readBytes_74 : decode prog_6_method_3_code 74 = .ok (.iload 5, 2) := by decide +kernel
theorem d_Identities_readBytes_76 : decode prog_6_method_3_code 76 = .ok (.invokevirtual 29, 3) := by decide +kernel
theorem d_Identities_readBytes_79 : decode prog_6_method_3_code 79 = .ok (.iconst (-1), 1) := by decide +kernel
theorem d_Identities_readBytes_80 : decode prog_6_method_3_code 80 = .ok (.istore 4, 2) := by decide +kernel
theorem d_Identities_readBytes_82 : decode prog_6_method_3_code 82 = .ok (.iinc 5 1, 3) := by decide +kernel
theorem d_Identities_readBytes_85 : decode prog_6_method_3_code 85 = .ok (.goto (-66), 3) := by decide +kernel
theorem d_Identities_readBytes_88 : decode prog_6_method_3_code 88 = .ok (.return_, 1) := by decide +kernel
theorem d_Identities_takeBetween_0 : decode prog_6_method_4_code 0 = .ok (.iload 4, 2) := by decide +kernel
theorem d_Identities_takeBetween_2 : decode prog_6_method_4_code 2 = .ok (.iload_n 3, 1) := by decide +kernel
theorem d_Identities_takeBetween_3 : decode prog_6_method_4_code 3 = .ok (.if_icmp .le 12, 3) := by decide +kernel
theorem d_Identities_takeBetween_6 : decode prog_6_method_4_code 6 = .ok (.iload 4, 2) := by decide +kernel
theorem d_Identities_takeBetween_8 : decode prog_6_method_4_code 8 = .ok (.iload_n 3, 1) := by decide +kernel
theorem d_Identities_takeBetween_9 : decode prog_6_method_4_code 9 = .ok (.isub, 1) := by decide +kernel
theorem d_Identities_takeBetween_10 : decode prog_6_method_4_code 10 = .ok (.bipush 100, 2) := by decide +kernel
theorem d_Identities_takeBetween_12 : decode prog_6_method_4_code 12 = .ok (.if_icmp .le 4, 3) := by decide +kernel
theorem d_Identities_takeBetween_15 : decode prog_6_method_4_code 15 = .ok (.return_, 1) := by decide +kernel
theorem d_Identities_takeBetween_16 : decode prog_6_method_4_code 16 = .ok (.iload_n 3, 1) := by decide +kernel
theorem d_Identities_takeBetween_17 : decode prog_6_method_4_code 17 = .ok (.istore 5, 2) := by decide +kernel
theorem d_Identities_takeBetween_19 : decode prog_6_method_4_code 19 = .ok (.iload 5, 2) := by decide +kernel
theorem d_Identities_takeBetween_21 : decode prog_6_method_4_code 21 = .ok (.iload 4, 2) := by decide +kernel
theorem d_Identities_takeBetween_23 : decode prog_6_method_4_code 23 = .ok (.if_icmp .ge 43, 3) := by decide +kernel
theorem d_Identities_takeBetween_26 : decode prog_6_method_4_code 26 = .ok (.aload_n 1, 1) := by decide +kernel
theorem d_Identities_takeBetween_27 : decode prog_6_method_4_code 27 = .ok (.iload_n 2, 1) := by decide +kernel
theorem d_Identities_takeBetween_28 : decode prog_6_method_4_code 28 = .ok (.iload 5, 2) := by decide +kernel
theorem d_Identities_takeBetween_30 : decode prog_6_method_4_code 30 = .ok (.invokevirtual 25, 3) := by decide +kernel
theorem d_Identities_takeBetween_33 : decode prog_6_method_4_code 33 = .ok (.istore 6, 2) := by decide +kernel
theorem d_Identities_takeBetween_35 : decode prog_6_method_4_code 35 = .ok (.iload 6, 2) := by decide +kernel
theorem d_Identities_takeBetween_37 : decode prog_6_method_4_code 37 = .ok (.invokestatic 33, 3) := by decide +kernel
theorem d_Identities_takeBetween_40 : decode prog_6_method_4_code 40 = .ok (.ifCond .eq 11, 3) := by decide +kernel
theorem d_Identities_takeBetween_43 : decode prog_6_method_4_code 43 = .ok (.aload_n 0, 1) := by decide +kernel
theorem d_Identities_takeBetween_44 : decode prog_6_method_4_code 44 = .ok (.getfield 12, 3) := by decide +kernel
theorem d_Identities_takeBetween_47 : decode prog_6_method_4_code 47 = .ok (.invokevirtual 37, 3) := by decide +kernel
theorem d_Identities_takeBetween_50 : decode prog_6_method_4_code 50 = .ok (.return_, 1) := by decide +kernel
theorem d_Identities_takeBetween_51 : decode prog_6_method_4_code 51 = .ok (.aload_n 0, 1) := by decide +kernel
theorem d_Identities_takeBetween_52 : decode prog_6_method_4_code 52 = .ok (.getfield 12, 3) := by decide +kernel
theorem d_Identities_takeBetween_55 : decode prog_6_method_4_code 55 = .ok (.iload 6, 2) := by decide +kernel
theorem d_Identities_takeBetween_57 : decode prog_6_method_4_code 57 = .ok (.invokevirtual 40, 3) := by decide +kernel
theorem d_Identities_takeBetween_60 : decode prog_6_method_4_code 60 = .ok (.iinc 5 1, 3) := by decide +kernel
theorem d_Identities_takeBetween_63 : decode prog_6_method_4_code 63 = .ok (.goto (-44), 3) := by decide +kernel
theorem d_Identities_takeBetween_66 : decode prog_6_method_4_code 66 = .ok (.aload_n 0, 1) := by decide +kernel
theorem d_Identities_takeBetween_67 : decode prog_6_method_4_code 67 = .ok (.getfield 12, 3) := by decide +kernel
theorem d_Identities_takeBetween_70 : decode prog_6_method_4_code 70 = .ok (.invokevirtual 44, 3) := by decide +kernel
theorem d_Identities_takeBetween_73 : decode prog_6_method_4_code 73 = .ok (.return_, 1) := by decide +kernel
theorem d_DateReader_seconds_0 : decode prog_4_method_2_code 0 = .ok (.aload_n 0, 1) := by decide +kernel
theorem d_DateReader_seconds_1 : decode prog_4_method_2_code 1 = .ok (.getfield 11, 3) := by decide +kernel
theorem d_DateReader_seconds_4 : decode prog_4_method_2_code 4 = .ok (.invokevirtual 21, 3) := by decide +kernel
theorem d_DateReader_seconds_7 : decode prog_4_method_2_code 7 = .ok (.iconst 0, 1) := by decide +kernel
theorem d_DateReader_seconds_8 : decode prog_4_method_2_code 8 = .ok (.invokevirtual 27, 3) := by decide +kernel
theorem d_DateReader_seconds_11 : decode prog_4_method_2_code 11 = .ok (.iconst 1, 1) := by decide +kernel
theorem d_DateReader_seconds_12 : decode prog_4_method_2_code 12 = .ok (.if_icmp .ne 23, 3) := by decide +kernel
theorem d_DateReader_seconds_15 : decode prog_4_method_2_code 15 = .ok (.aload_n 0, 1) := by decide +kernel
theorem d_DateReader_seconds_16 : decode prog_4_method_2_code 16 = .ok (.getfield 11, 3) := by decide +kernel
theorem d_DateReader_seconds_19 : decode prog_4_method_2_code 19 = .ok (.invokevirtual 21, 3) := by decide +kernel
theorem d_DateReader_seconds_22 : decode prog_4_method_2_code 22 = .ok (.iconst 1, 1) := by decide +kernel
theorem d_DateReader_seconds_23 : decode prog_4_method_2_code 23 = .ok (.invokevirtual 27, 3) := by decide +kernel
theorem d_DateReader_seconds_26 : decode prog_4_method_2_code 26 = .ok (.bipush 44, 2) := by decide +kernel
theorem d_DateReader_seconds_28 : decode prog_4_method_2_code 28 = .ok (.if_icmp .ne 7, 3) := by decide +kernel
theorem d_DateReader_seconds_31 : decode prog_4_method_2_code 31 = .ok (.iconst 1, 1) := by decide +kernel
theorem d_DateReader_seconds_32 : decode prog_4_method_2_code 32 = .ok (.goto 4, 3) := by decide +kernel
theorem d_DateReader_seconds_35 : decode prog_4_method_2_code 35 = .ok (.iconst 0, 1) := by decide +kernel
theorem d_DateReader_seconds_36 : decode prog_4_method_2_code 36 = .ok (.istore_n 1, 1) := by decide +kernel
theorem d_DateReader_seconds_37 : decode prog_4_method_2_code 37 = .ok (.aload_n 0, 1) := by decide +kernel
theorem d_DateReader_seconds_38 : decode prog_4_method_2_code 38 = .ok (.iload_n 1, 1) := by decide +kernel
theorem d_DateReader_seconds_39 : decode prog_4_method_2_code 39 = .ok (.ifCond .eq 7, 3) := by decide +kernel
theorem d_DateReader_seconds_42 : decode prog_4_method_2_code 42 = .ok (.iconst 2, 1) := by decide +kernel
theorem d_DateReader_seconds_43 : decode prog_4_method_2_code 43 = .ok (.goto 4, 3) := by decide +kernel
theorem d_DateReader_seconds_46 : decode prog_4_method_2_code 46 = .ok (.iconst 0, 1) := by decide +kernel
theorem d_DateReader_seconds_47 : decode prog_4_method_2_code 47 = .ok (.putfield 17, 3) := by decide +kernel
theorem d_DateReader_seconds_50 : decode prog_4_method_2_code 50 = .ok (.aload_n 0, 1) := by decide +kernel
theorem d_DateReader_seconds_51 : decode prog_4_method_2_code 51 = .ok (.iconst 1, 1) := by decide +kernel
theorem d_DateReader_seconds_52 : decode prog_4_method_2_code 52 = .ok (.iconst 2, 1) := by decide +kernel
theorem d_DateReader_seconds_53 : decode prog_4_method_2_code 53 = .ok (.invokevirtual 33, 3) := by decide +kernel
theorem d_DateReader_seconds_56 : decode prog_4_method_2_code 56 = .ok (.istore_n 2, 1) := by decide +kernel
theorem d_DateReader_seconds_57 : decode prog_4_method_2_code 57 = .ok (.aload_n 0, 1) := by decide +kernel
theorem d_DateReader_seconds_58 : decode prog_4_method_2_code 58 = .ok (.invokevirtual 37, 3) := by decide +kernel
theorem d_DateReader_seconds_61 : decode prog_4_method_2_code 61 = .ok (.istore_n 3, 1) := by decide +kernel
theorem d_DateReader_seconds_62 : decode prog_4_method_2_code 62 = .ok (.aload_n 0, 1) := by decide +kernel
theorem d_DateReader_seconds_63 : decode prog_4_method_2_code 63 = .ok (.invokevirtual 41, 3) := by decide +kernel
theorem d_DateReader_seconds_66 : decode prog_4_method_2_code 66 = .ok (.istore 4, 2) := by decide +kernel
theorem d_DateReader_seconds_68 : decode prog_4_method_2_code 68 = .ok (.aload_n 0, 1) := by decide +kernel
theorem d_DateReader_seconds_69 : decode prog_4_method_2_code 69 = .ok (.iconst 2, 1) := by decide +kernel
theorem d_DateReader_seconds_70 : decode prog_4_method_2_code 70 = .ok (.iconst 2, 1) := by decide +kernel
theorem d_DateReader_seconds_71 : decode prog_4_method_2_code 71 = .ok (.invokevirtual 33, 3) := by decide +kernel
theorem d_DateReader_seconds_74 : decode prog_4_method_2_code 74 = .ok (.istore 5, 2) := by decide +kernel
theorem d_DateReader_seconds_76 : decode prog_4_method_2_code 76 = .ok (.aload_n 0, 1) := by decide +kernel
theorem d_DateReader_seconds_77 : decode prog_4_method_2_code 77 = .ok (.invokevirtual 44, 3) := by decide +kernel
theorem d_DateReader_seconds_80 : decode prog_4_method_2_code 80 = .ok (.istore 6, 2) := by decide +kernel
theorem d_DateReader_seconds_82 : decode prog_4_method_2_code 82 = .ok (.aload_n 0, 1) := by decide +kernel
theorem d_DateReader_seconds_83 : decode prog_4_method_2_code 83 = .ok (.iconst 2, 1) := by decide +kernel
theorem d_DateReader_seconds_84 : decode prog_4_method_2_code 84 = .ok (.iconst 2, 1) := by decide +kernel
theorem d_DateReader_seconds_85 : decode prog_4_method_2_code 85 = .ok (.invokevirtual 33, 3) := by decide +kernel
theorem d_DateReader_seconds_88 : decode prog_4_method_2_code 88 = .ok (.istore 7, 2) := by decide +kernel
theorem d_DateReader_seconds_90 : decode prog_4_method_2_code 90 = .ok (.aload_n 0, 1) := by decide +kernel
theorem d_DateReader_seconds_91 : decode prog_4_method_2_code 91 = .ok (.invokevirtual 44, 3) := by decide +kernel
theorem d_DateReader_seconds_94 : decode prog_4_method_2_code 94 = .ok (.ifCond .eq 12, 3) := by decide +kernel
theorem d_DateReader_seconds_97 : decode prog_4_method_2_code 97 = .ok (.aload_n 0, 1) := by decide +kernel
theorem d_DateReader_seconds_98 : decode prog_4_method_2_code 98 = .ok (.iconst 2, 1) := by decide +kernel
theorem d_DateReader_seconds_99 : decode prog_4_method_2_code 99 = .ok (.iconst 2, 1) := by decide +kernel
theorem d_DateReader_seconds_100 : decode prog_4_method_2_code 100 = .ok (.invokevirtual 33, 3) := by decide +kernel
theorem d_DateReader_seconds_103 : decode prog_4_method_2_code 103 = .ok (.goto 4, 3) := by decide +kernel
theorem d_DateReader_seconds_106 : decode prog_4_method_2_code 106 = .ok (.iconst 0, 1) := by decide +kernel
theorem d_DateReader_seconds_107 : decode prog_4_method_2_code 107 = .ok (.istore 8, 2) := by decide +kernel
theorem d_DateReader_seconds_109 : decode prog_4_method_2_code 109 = .ok (.iload 6, 2) := by decide +kernel
theorem d_DateReader_seconds_111 : decode prog_4_method_2_code 111 = .ok (.ifCond .eq 37, 3) := by decide +kernel
theorem d_DateReader_seconds_114 : decode prog_4_method_2_code 114 = .ok (.iload 5, 2) := by decide +kernel
theorem d_DateReader_seconds_116 : decode prog_4_method_2_code 116 = .ok (.bipush 24, 2) := by decide +kernel
theorem d_DateReader_seconds_118 : decode prog_4_method_2_code 118 = .ok (.invokestatic 48, 3) := by decide +kernel
theorem d_DateReader_seconds_121 : decode prog_4_method_2_code 121 = .ok (.ifCond .eq 27, 3) := by decide +kernel
theorem d_DateReader_seconds_124 : decode prog_4_method_2_code 124 = .ok (.iload 7, 2) := by decide +kernel
theorem d_DateReader_seconds_126 : decode prog_4_method_2_code 126 = .ok (.bipush 60, 2) := by decide +kernel
theorem d_DateReader_seconds_128 : decode prog_4_method_2_code 128 = .ok (.invokestatic 48, 3) := by decide +kernel
theorem d_DateReader_seconds_131 : decode prog_4_method_2_code 131 = .ok (.ifCond .eq 17, 3) := by decide +kernel
theorem d_DateReader_seconds_134 : decode prog_4_method_2_code 134 = .ok (.iload 8, 2) := by decide +kernel
theorem d_DateReader_seconds_136 : decode prog_4_method_2_code 136 = .ok (.bipush 61, 2) := by decide +kernel
theorem d_DateReader_seconds_138 : decode prog_4_method_2_code 138 = .ok (.invokestatic 48, 3) := by decide +kernel
theorem d_DateReader_seconds_141 : decode prog_4_method_2_code 141 = .ok (.ifCond .eq 7, 3) := by decide +kernel
theorem d_DateReader_seconds_144 : decode prog_4_method_2_code 144 = .ok (.iconst 1, 1) := by decide +kernel
theorem d_DateReader_seconds_145 : decode prog_4_method_2_code 145 = .ok (.goto 4, 3) := by decide +kernel
theorem d_DateReader_seconds_148 : decode prog_4_method_2_code 148 = .ok (.iconst 0, 1) := by decide +kernel
theorem d_DateReader_seconds_149 : decode prog_4_method_2_code 149 = .ok (.istore 9, 2) := by decide +kernel
theorem d_DateReader_seconds_151 : decode prog_4_method_2_code 151 = .ok (.iload 9, 2) := by decide +kernel
theorem d_DateReader_seconds_153 : decode prog_4_method_2_code 153 = .ok (.ifCond .eq 13, 3) := by decide +kernel
theorem d_DateReader_seconds_156 : decode prog_4_method_2_code 156 = .ok (.iload 4, 2) := by decide +kernel
theorem d_DateReader_seconds_158 : decode prog_4_method_2_code 158 = .ok (.iload_n 3, 1) := by decide +kernel
theorem d_DateReader_seconds_159 : decode prog_4_method_2_code 159 = .ok (.iload_n 2, 1) := by decide +kernel
theorem d_DateReader_seconds_160 : decode prog_4_method_2_code 160 = .ok (.invokestatic 52, 3) := by decide +kernel
theorem d_DateReader_seconds_163 : decode prog_4_method_2_code 163 = .ok (.ifCond .ne 7, 3) := by decide +kernel
theorem d_DateReader_seconds_166 : decode prog_4_method_2_code 166 = .ok (.ldc2_w 56, 3) := by decide +kernel
theorem d_DateReader_seconds_169 : decode prog_4_method_2_code 169 = .ok (.lreturn, 1) := by decide +kernel
theorem d_DateReader_seconds_170 : decode prog_4_method_2_code 170 = .ok (.ldc2_w 58, 3) := by decide +kernel
theorem d_DateReader_seconds_173 : decode prog_4_method_2_code 173 = .ok (.iload 4, 2) := by decide +kernel
theorem d_DateReader_seconds_175 : decode prog_4_method_2_code 175 = .ok (.iload_n 3, 1) := by decide +kernel
theorem d_DateReader_seconds_176 : decode prog_4_method_2_code 176 = .ok (.iload_n 2, 1) := by decide +kernel
theorem d_DateReader_seconds_177 : decode prog_4_method_2_code 177 = .ok (.invokestatic 60, 3) := by decide +kernel
theorem d_DateReader_seconds_180 : decode prog_4_method_2_code 180 = .ok (.i2l, 1) := by decide +kernel
theorem d_DateReader_seconds_181 : decode prog_4_method_2_code 181 = .ok (.lmul, 1) := by decide +kernel
theorem d_DateReader_seconds_182 : decode prog_4_method_2_code 182 = .ok (.iload 5, 2) := by decide +kernel
theorem d_DateReader_seconds_184 : decode prog_4_method_2_code 184 = .ok (.i2l, 1) := by decide +kernel
theorem d_DateReader_seconds_185 : decode prog_4_method_2_code 185 = .ok (.ladd, 1) := by decide +kernel
theorem d_DateReader_seconds_186 : decode prog_4_method_2_code 186 = .ok (.lstore 10, 2) := by decide +kernel
theorem d_DateReader_seconds_188 : decode prog_4_method_2_code 188 = .ok (.ldc2_w 64, 3) := by decide +kernel
theorem d_DateReader_seconds_191 : decode prog_4_method_2_code 191 = .ok (.ldc2_w 64, 3) := by decide +kernel
theorem d_DateReader_seconds_194 : decode prog_4_method_2_code 194 = .ok (.lload 10, 2) := by decide +kernel
theorem d_DateReader_seconds_196 : decode prog_4_method_2_code 196 = .ok (.lmul, 1) := by decide +kernel
theorem d_DateReader_seconds_197 : decode prog_4_method_2_code 197 = .ok (.iload 7, 2) := by decide +kernel
theorem d_DateReader_seconds_199 : decode prog_4_method_2_code 199 = .ok (.i2l, 1) := by decide +kernel
theorem d_DateReader_seconds_200 : decode prog_4_method_2_code 200 = .ok (.ladd, 1) := by decide +kernel
theorem d_DateReader_seconds_201 : decode prog_4_method_2_code 201 = .ok (.lmul, 1) := by decide +kernel
theorem d_DateReader_seconds_202 : decode prog_4_method_2_code 202 = .ok (.iload 8, 2) := by decide +kernel
theorem d_DateReader_seconds_204 : decode prog_4_method_2_code 204 = .ok (.i2l, 1) := by decide +kernel
theorem d_DateReader_seconds_205 : decode prog_4_method_2_code 205 = .ok (.ladd, 1) := by decide +kernel
theorem d_DateReader_seconds_206 : decode prog_4_method_2_code 206 = .ok (.aload_n 0, 1) := by decide +kernel
theorem d_DateReader_seconds_207 : decode prog_4_method_2_code 207 = .ok (.invokevirtual 66, 3) := by decide +kernel
theorem d_DateReader_seconds_210 : decode prog_4_method_2_code 210 = .ok (.i2l, 1) := by decide +kernel
theorem d_DateReader_seconds_211 : decode prog_4_method_2_code 211 = .ok (.lsub, 1) := by decide +kernel
theorem d_DateReader_seconds_212 : decode prog_4_method_2_code 212 = .ok (.lreturn, 1) := by decide +kernel
theorem d_DateReader_takeNumber_0 : decode prog_4_method_3_code 0 = .ok (.aload_n 0, 1) := by decide +kernel
theorem d_DateReader_takeNumber_1 : decode prog_4_method_3_code 1 = .ok (.getfield 11, 3) := by decide +kernel
theorem d_DateReader_takeNumber_4 : decode prog_4_method_3_code 4 = .ok (.invokevirtual 69, 3) := by decide +kernel
theorem d_DateReader_takeNumber_7 : decode prog_4_method_3_code 7 = .ok (.aload_n 0, 1) := by decide +kernel
theorem d_DateReader_takeNumber_8 : decode prog_4_method_3_code 8 = .ok (.getfield 17, 3) := by decide +kernel
theorem d_DateReader_takeNumber_11 : decode prog_4_method_3_code 11 = .ok (.invokevirtual 73, 3) := by decide +kernel
theorem d_DateReader_takeNumber_14 : decode prog_4_method_3_code 14 = .ok (.istore_n 3, 1) := by decide +kernel
theorem d_DateReader_takeNumber_15 : decode prog_4_method_3_code 15 = .ok (.aload_n 0, 1) := by decide +kernel
theorem d_DateReader_takeNumber_16 : decode prog_4_method_3_code 16 = .ok (.getfield 11, 3) := by decide +kernel
theorem d_DateReader_takeNumber_19 : decode prog_4_method_3_code 19 = .ok (.invokevirtual 21, 3) := by decide +kernel
theorem d_DateReader_takeNumber_22 : decode prog_4_method_3_code 22 = .ok (.aload_n 0, 1) := by decide +kernel
theorem d_DateReader_takeNumber_23 : decode prog_4_method_3_code 23 = .ok (.getfield 17, 3) := by decide +kernel
theorem d_DateReader_takeNumber_26 : decode prog_4_method_3_code 26 = .ok (.invokevirtual 27, 3) := by decide +kernel
theorem d_DateReader_takeNumber_29 : decode prog_4_method_3_code 29 = .ok (.iconst 1, 1) := by decide +kernel
theorem d_DateReader_takeNumber_30 : decode prog_4_method_3_code 30 = .ok (.if_icmp .ne 13, 3) := by decide +kernel
theorem d_DateReader_takeNumber_33 : decode prog_4_method_3_code 33 = .ok (.iload_n 3, 1) := by decide +kernel
theorem d_DateReader_takeNumber_34 : decode prog_4_method_3_code 34 = .ok (.iload_n 1, 1) := by decide +kernel
theorem d_DateReader_takeNumber_35 : decode prog_4_method_3_code 35 = .ok (.if_icmp .lt 8, 3) := by decide +kernel
theorem d_DateReader_takeNumber_38 : decode prog_4_method_3_code 38 = .ok (.iload_n 3, 1) := by decide +kernel
theorem d_DateReader_takeNumber_39 : decode prog_4_method_3_code 39 = .ok (.iload_n 2, 1) := by decide +kernel
theorem d_DateReader_takeNumber_40 : decode prog_4_method_3_code 40 = .ok (.if_icmp .le 5, 3) := by decide +kernel
theorem d_DateReader_takeNumber_43 : decode prog_4_method_3_code 43 = .ok (.iconst (-1), 1) := by decide +kernel
theorem d_DateReader_takeNumber_44 : decode prog_4_method_3_code 44 = .ok (.ireturn, 1) := by decide +kernel
theorem d_DateReader_takeNumber_45 : decode prog_4_method_3_code 45 = .ok (.aload_n 0, 1) := by decide +kernel
theorem d_DateReader_takeNumber_46 : decode prog_4_method_3_code 46 = .ok (.iconst 0, 1) := by decide +kernel
theorem d_DateReader_takeNumber_47 : decode prog_4_method_3_code 47 = .ok (.iload_n 3, 1) := by decide +kernel
theorem d_DateReader_takeNumber_48 : decode prog_4_method_3_code 48 = .ok (.invokevirtual 78, 3) := by decide +kernel
theorem d_DateReader_takeNumber_51 : decode prog_4_method_3_code 51 = .ok (.istore 4, 2) := by decide +kernel
theorem d_DateReader_takeNumber_53 : decode prog_4_method_3_code 53 = .ok (.aload_n 0, 1) := by decide +kernel
theorem d_DateReader_takeNumber_54 : decode prog_4_method_3_code 54 = .ok (.dup, 1) := by decide +kernel
theorem d_DateReader_takeNumber_55 : decode prog_4_method_3_code 55 = .ok (.getfield 17, 3) := by decide +kernel
theorem d_DateReader_takeNumber_58 : decode prog_4_method_3_code 58 = .ok (.iconst 1, 1) := by decide +kernel
theorem d_DateReader_takeNumber_59 : decode prog_4_method_3_code 59 = .ok (.iadd, 1) := by decide +kernel
theorem d_DateReader_takeNumber_60 : decode prog_4_method_3_code 60 = .ok (.putfield 17, 3) := by decide +kernel
theorem d_DateReader_takeNumber_63 : decode prog_4_method_3_code 63 = .ok (.iload 4, 2) := by decide +kernel
theorem d_DateReader_takeNumber_65 : decode prog_4_method_3_code 65 = .ok (.ireturn, 1) := by decide +kernel
theorem d_DateReader_digits_0 : decode prog_4_method_7_code 0 = .ok (.iconst 0, 1) := by decide +kernel
theorem d_DateReader_digits_1 : decode prog_4_method_7_code 1 = .ok (.istore_n 3, 1) := by decide +kernel
theorem d_DateReader_digits_2 : decode prog_4_method_7_code 2 = .ok (.iload_n 1, 1) := by decide +kernel
theorem d_DateReader_digits_3 : decode prog_4_method_7_code 3 = .ok (.istore 4, 2) := by decide +kernel
theorem d_DateReader_digits_5 : decode prog_4_method_7_code 5 = .ok (.iload 4, 2) := by decide +kernel
theorem d_DateReader_digits_7 : decode prog_4_method_7_code 7 = .ok (.iload_n 2, 1) := by decide +kernel
theorem d_DateReader_digits_8 : decode prog_4_method_7_code 8 = .ok (.if_icmp .ge 46, 3) := by decide +kernel
theorem d_DateReader_digits_11 : decode prog_4_method_7_code 11 = .ok (.aload_n 0, 1) := by decide +kernel
theorem d_DateReader_digits_12 : decode prog_4_method_7_code 12 = .ok (.getfield 11, 3) := by decide +kernel
theorem d_DateReader_digits_15 : decode prog_4_method_7_code 15 = .ok (.invokevirtual 69, 3) := by decide +kernel
theorem d_DateReader_digits_18 : decode prog_4_method_7_code 18 = .ok (.aload_n 0, 1) := by decide +kernel
theorem d_DateReader_digits_19 : decode prog_4_method_7_code 19 = .ok (.getfield 17, 3) := by decide +kernel
theorem d_DateReader_digits_22 : decode prog_4_method_7_code 22 = .ok (.iload 4, 2) := by decide +kernel
theorem d_DateReader_digits_24 : decode prog_4_method_7_code 24 = .ok (.invokevirtual 87, 3) := by decide +kernel
theorem d_DateReader_digits_27 : decode prog_4_method_7_code 27 = .ok (.invokestatic 90, 3) := by decide +kernel
theorem d_DateReader_digits_30 : decode prog_4_method_7_code 30 = .ok (.istore 5, 2) := by decide +kernel
theorem d_DateReader_digits_32 : decode prog_4_method_7_code 32 = .ok (.iload 5, 2) := by decide +kernel
theorem d_DateReader_digits_34 : decode prog_4_method_7_code 34 = .ok (.iconst (-1), 1) := by decide +kernel
theorem d_DateReader_digits_35 : decode prog_4_method_7_code 35 = .ok (.if_icmp .ne 5, 3) := by decide +kernel
theorem d_DateReader_digits_38 : decode prog_4_method_7_code 38 = .ok (.iconst (-1), 1) := by decide +kernel
theorem d_DateReader_digits_39 : decode prog_4_method_7_code 39 = .ok (.ireturn, 1) := by decide +kernel
theorem d_DateReader_digits_40 : decode prog_4_method_7_code 40 = .ok (.bipush 10, 2) := by decide +kernel
theorem d_DateReader_digits_42 : decode prog_4_method_7_code 42 = .ok (.iload_n 3, 1) := by decide +kernel
theorem d_DateReader_digits_43 : decode prog_4_method_7_code 43 = .ok (.imul, 1) := by decide +kernel
theorem d_DateReader_digits_44 : decode prog_4_method_7_code 44 = .ok (.iload 5, 2) := by decide +kernel
theorem d_DateReader_digits_46 : decode prog_4_method_7_code 46 = .ok (.iadd, 1) := by decide +kernel
theorem d_DateReader_digits_47 : decode prog_4_method_7_code 47 = .ok (.istore_n 3, 1) := by decide +kernel
theorem d_DateReader_digits_48 : decode prog_4_method_7_code 48 = .ok (.iinc 4 1, 3) := by decide +kernel
theorem d_DateReader_digits_51 : decode prog_4_method_7_code 51 = .ok (.goto (-46), 3) := by decide +kernel
theorem d_DateReader_digits_54 : decode prog_4_method_7_code 54 = .ok (.iload_n 3, 1) := by decide +kernel
theorem d_DateReader_digits_55 : decode prog_4_method_7_code 55 = .ok (.ireturn, 1) := by decide +kernel
theorem d_DateReader_takeMonth_0 : decode prog_4_method_4_code 0 = .ok (.aload_n 0, 1) := by decide +kernel
theorem d_DateReader_takeMonth_1 : decode prog_4_method_4_code 1 = .ok (.getfield 11, 3) := by decide +kernel
theorem d_DateReader_takeMonth_4 : decode prog_4_method_4_code 4 = .ok (.invokevirtual 21, 3) := by decide +kernel
theorem d_DateReader_takeMonth_7 : decode prog_4_method_4_code 7 = .ok (.aload_n 0, 1) := by decide +kernel
theorem d_DateReader_takeMonth_8 : decode prog_4_method_4_code 8 = .ok (.getfield 17, 3) := by decide +kernel
theorem d_DateReader_takeMonth_11 : decode prog_4_method_4_code 11 = .ok (.invokevirtual 27, 3) := by decide +kernel
theorem d_DateReader_takeMonth_14 : decode prog_4_method_4_code 14 = .ok (.iconst 1, 1) := by decide +kernel
theorem d_DateReader_takeMonth_15 : decode prog_4_method_4_code 15 = .ok (.if_icmp .ne 12, 3) := by decide +kernel
theorem d_DateReader_takeMonth_18 : decode prog_4_method_4_code 18 = .ok (.aload_n 0, 1) := by decide +kernel
theorem d_DateReader_takeMonth_19 : decode prog_4_method_4_code 19 = .ok (.ldc 81, 2) := by decide +kernel
theorem d_DateReader_takeMonth_21 : decode prog_4_method_4_code 21 = .ok (.invokevirtual 83, 3) := by decide +kernel
theorem d_DateReader_takeMonth_24 : decode prog_4_method_4_code 24 = .ok (.goto 4, 3) := by decide +kernel
theorem d_DateReader_takeMonth_27 : decode prog_4_method_4_code 27 = .ok (.iconst (-1), 1) := by decide +kernel
theorem d_DateReader_takeMonth_28 : decode prog_4_method_4_code 28 = .ok (.istore_n 1, 1) := by decide +kernel
theorem d_DateReader_takeMonth_29 : decode prog_4_method_4_code 29 = .ok (.aload_n 0, 1) := by decide +kernel
theorem d_DateReader_takeMonth_30 : decode prog_4_method_4_code 30 = .ok (.dup, 1) := by decide +kernel
theorem d_DateReader_takeMonth_31 : decode prog_4_method_4_code 31 = .ok (.getfield 17, 3) := by decide +kernel
theorem d_DateReader_takeMonth_34 : decode prog_4_method_4_code 34 = .ok (.iconst 1, 1) := by decide +kernel
theorem d_DateReader_takeMonth_35 : decode prog_4_method_4_code 35 = .ok (.iadd, 1) := by decide +kernel
theorem d_DateReader_takeMonth_36 : decode prog_4_method_4_code 36 = .ok (.putfield 17, 3) := by decide +kernel
theorem d_DateReader_takeMonth_39 : decode prog_4_method_4_code 39 = .ok (.iload_n 1, 1) := by decide +kernel
theorem d_DateReader_takeMonth_40 : decode prog_4_method_4_code 40 = .ok (.ireturn, 1) := by decide +kernel
theorem d_DateReader_threeLetters_0 : decode prog_4_method_8_code 0 = .ok (.iconst 0, 1) := by decide +kernel
theorem d_DateReader_threeLetters_1 : decode prog_4_method_8_code 1 = .ok (.istore_n 2, 1) := by decide +kernel
theorem d_DateReader_threeLetters_2 : decode prog_4_method_8_code 2 = .ok (.iload_n 2, 1) := by decide +kernel
theorem d_DateReader_threeLetters_3 : decode prog_4_method_8_code 3 = .ok (.iconst 2, 1) := by decide +kernel
theorem d_DateReader_threeLetters_4 : decode prog_4_method_8_code 4 = .ok (.iadd, 1) := by decide +kernel
theorem d_DateReader_threeLetters_5 : decode prog_4_method_8_code 5 = .ok (.aload_n 1, 1) := by decide +kernel
theorem d_DateReader_threeLetters_6 : decode prog_4_method_8_code 6 = .ok (.invokevirtual 93, 3) := by decide +kernel
theorem d_DateReader_threeLetters_9 : decode prog_4_method_8_code 9 = .ok (.if_icmp .ge 56, 3) := by decide +kernel
theorem d_DateReader_threeLetters_12 : decode prog_4_method_8_code 12 = .ok (.aload_n 0, 1) := by decide +kernel
theorem d_DateReader_threeLetters_13 : decode prog_4_method_8_code 13 = .ok (.iconst 0, 1) := by decide +kernel
theorem d_DateReader_threeLetters_14 : decode prog_4_method_8_code 14 = .ok (.aload_n 1, 1) := by decide +kernel
theorem d_DateReader_threeLetters_15 : decode prog_4_method_8_code 15 = .ok (.iload_n 2, 1) := by decide +kernel
theorem d_DateReader_threeLetters_16 : decode prog_4_method_8_code 16 = .ok (.invokevirtual 98, 3) := by decide +kernel
theorem d_DateReader_threeLetters_19 : decode prog_4_method_8_code 19 = .ok (.invokevirtual 102, 3) := by decide +kernel
theorem d_DateReader_threeLetters_22 : decode prog_4_method_8_code 22 = .ok (.ifCond .eq 37, 3) := by decide +kernel
theorem d_DateReader_threeLetters_25 : decode prog_4_method_8_code 25 = .ok (.aload_n 0, 1) := by decide +kernel
theorem d_DateReader_threeLetters_26 : decode prog_4_method_8_code 26 = .ok (.iconst 1, 1) := by decide +kernel
theorem d_DateReader_threeLetters_27 : decode prog_4_method_8_code 27 = .ok (.aload_n 1, 1) := by decide +kernel
theorem d_DateReader_threeLetters_28 : decode prog_4_method_8_code 28 = .ok (.iload_n 2, 1) := by decide +kernel
theorem d_DateReader_threeLetters_29 : decode prog_4_method_8_code 29 = .ok (.iconst 1, 1) := by decide +kernel
theorem d_DateReader_threeLetters_30 : decode prog_4_method_8_code 30 = .ok (.iadd, 1) := by decide +kernel
theorem d_DateReader_threeLetters_31 : decode prog_4_method_8_code 31 = .ok (.invokevirtual 98, 3) := by decide +kernel
theorem d_DateReader_threeLetters_34 : decode prog_4_method_8_code 34 = .ok (.invokevirtual 102, 3) := by decide +kernel
theorem d_DateReader_threeLetters_37 : decode prog_4_method_8_code 37 = .ok (.ifCond .eq 22, 3) := by decide +kernel
theorem d_DateReader_threeLetters_40 : decode prog_4_method_8_code 40 = .ok (.aload_n 0, 1) := by decide +kernel
theorem d_DateReader_threeLetters_41 : decode prog_4_method_8_code 41 = .ok (.iconst 2, 1) := by decide +kernel
theorem d_DateReader_threeLetters_42 : decode prog_4_method_8_code 42 = .ok (.aload_n 1, 1) := by decide +kernel
theorem d_DateReader_threeLetters_43 : decode prog_4_method_8_code 43 = .ok (.iload_n 2, 1) := by decide +kernel
theorem d_DateReader_threeLetters_44 : decode prog_4_method_8_code 44 = .ok (.iconst 2, 1) := by decide +kernel
theorem d_DateReader_threeLetters_45 : decode prog_4_method_8_code 45 = .ok (.iadd, 1) := by decide +kernel
theorem d_DateReader_threeLetters_46 : decode prog_4_method_8_code 46 = .ok (.invokevirtual 98, 3) := by decide +kernel
theorem d_DateReader_threeLetters_49 : decode prog_4_method_8_code 49 = .ok (.invokevirtual 102, 3) := by decide +kernel
theorem d_DateReader_threeLetters_52 : decode prog_4_method_8_code 52 = .ok (.ifCond .eq 7, 3) := by decide +kernel
theorem d_DateReader_threeLetters_55 : decode prog_4_method_8_code 55 = .ok (.iload_n 2, 1) := by decide +kernel
theorem d_DateReader_threeLetters_56 : decode prog_4_method_8_code 56 = .ok (.iconst 3, 1) := by decide +kernel
theorem d_DateReader_threeLetters_57 : decode prog_4_method_8_code 57 = .ok (.idiv, 1) := by decide +kernel
theorem d_DateReader_threeLetters_58 : decode prog_4_method_8_code 58 = .ok (.ireturn, 1) := by decide +kernel
theorem d_DateReader_threeLetters_59 : decode prog_4_method_8_code 59 = .ok (.iinc 2 3, 3) := by decide +kernel
theorem d_DateReader_threeLetters_62 : decode prog_4_method_8_code 62 = .ok (.goto (-60), 3) := by decide +kernel
theorem d_DateReader_threeLetters_65 : decode prog_4_method_8_code 65 = .ok (.iconst (-1), 1) := by decide +kernel
theorem d_DateReader_threeLetters_66 : decode prog_4_method_8_code 66 = .ok (.ireturn, 1) := by decide +kernel
theorem d_DateReader_isLetter_0 : decode prog_4_method_9_code 0 = .ok (.aload_n 0, 1) := by decide +kernel
theorem d_DateReader_isLetter_1 : decode prog_4_method_9_code 1 = .ok (.getfield 11, 3) := by decide +kernel
theorem d_DateReader_isLetter_4 : decode prog_4_method_9_code 4 = .ok (.invokevirtual 69, 3) := by decide +kernel
theorem d_DateReader_isLetter_7 : decode prog_4_method_9_code 7 = .ok (.aload_n 0, 1) := by decide +kernel
theorem d_DateReader_isLetter_8 : decode prog_4_method_9_code 8 = .ok (.getfield 17, 3) := by decide +kernel
theorem d_DateReader_isLetter_11 : decode prog_4_method_9_code 11 = .ok (.iload_n 1, 1) := by decide +kernel
theorem d_DateReader_isLetter_12 : decode prog_4_method_9_code 12 = .ok (.invokevirtual 87, 3) := by decide +kernel
theorem d_DateReader_isLetter_15 : decode prog_4_method_9_code 15 = .ok (.invokestatic 105, 3) := by decide +kernel
theorem d_DateReader_isLetter_18 : decode prog_4_method_9_code 18 = .ok (.iload_n 2, 1) := by decide +kernel
theorem d_DateReader_isLetter_19 : decode prog_4_method_9_code 19 = .ok (.if_icmp .ne 7, 3) := by decide +kernel
theorem d_DateReader_isLetter_22 : decode prog_4_method_9_code 22 = .ok (.iconst 1, 1) := by decide +kernel
theorem d_DateReader_isLetter_23 : decode prog_4_method_9_code 23 = .ok (.goto 4, 3) := by decide +kernel
theorem d_DateReader_isLetter_26 : decode prog_4_method_9_code 26 = .ok (.iconst 0, 1) := by decide +kernel
theorem d_DateReader_isLetter_27 : decode prog_4_method_9_code 27 = .ok (.ireturn, 1) := by decide +kernel
theorem d_DateReader_takeYear_0 : decode prog_4_method_5_code 0 = .ok (.aload_n 0, 1) := by decide +kernel
theorem d_DateReader_takeYear_1 : decode prog_4_method_5_code 1 = .ok (.getfield 11, 3) := by decide +kernel
theorem d_DateReader_takeYear_4 : decode prog_4_method_5_code 4 = .ok (.invokevirtual 69, 3) := by decide +kernel
theorem d_DateReader_takeYear_7 : decode prog_4_method_5_code 7 = .ok (.aload_n 0, 1) := by decide +kernel
theorem d_DateReader_takeYear_8 : decode prog_4_method_5_code 8 = .ok (.getfield 17, 3) := by decide +kernel
theorem d_DateReader_takeYear_11 : decode prog_4_method_5_code 11 = .ok (.invokevirtual 73, 3) := by decide +kernel
theorem d_DateReader_takeYear_14 : decode prog_4_method_5_code 14 = .ok (.istore_n 1, 1) := by decide +kernel
theorem d_DateReader_takeYear_15 : decode prog_4_method_5_code 15 = .ok (.aload_n 0, 1) := by decide +kernel
theorem d_DateReader_takeYear_16 : decode prog_4_method_5_code 16 = .ok (.iconst 2, 1) := by decide +kernel
theorem d_DateReader_takeYear_17 : decode prog_4_method_5_code 17 = .ok (.bipush 9, 2) := by decide +kernel
theorem d_DateReader_takeYear_19 : decode prog_4_method_5_code 19 = .ok (.invokevirtual 33, 3) := by decide +kernel
theorem d_DateReader_takeYear_22 : decode prog_4_method_5_code 22 = .ok (.istore_n 2, 1) := by decide +kernel
theorem d_DateReader_takeYear_23 : decode prog_4_method_5_code 23 = .ok (.iload_n 2, 1) := by decide +kernel
theorem d_DateReader_takeYear_24 : decode prog_4_method_5_code 24 = .ok (.iconst (-1), 1) := by decide +kernel
theorem d_DateReader_takeYear_25 : decode prog_4_method_5_code 25 = .ok (.if_icmp .eq 8, 3) := by decide +kernel
theorem d_DateReader_takeYear_28 : decode prog_4_method_5_code 28 = .ok (.iload_n 1, 1) := by decide +kernel
theorem d_DateReader_takeYear_29 : decode prog_4_method_5_code 29 = .ok (.iconst 3, 1) := by decide +kernel
theorem d_DateReader_takeYear_30 : decode prog_4_method_5_code 30 = .ok (.if_icmp .le 5, 3) := by decide +kernel
theorem d_DateReader_takeYear_33 : decode prog_4_method_5_code 33 = .ok (.iload_n 2, 1) := by decide +kernel
theorem d_DateReader_takeYear_34 : decode prog_4_method_5_code 34 = .ok (.ireturn, 1) := by decide +kernel
theorem d_DateReader_takeYear_35 : decode prog_4_method_5_code 35 = .ok (.iload_n 1, 1) := by decide +kernel
theorem d_DateReader_takeYear_36 : decode prog_4_method_5_code 36 = .ok (.iconst 2, 1) := by decide +kernel
theorem d_DateReader_takeYear_37 : decode prog_4_method_5_code 37 = .ok (.if_icmp .ne 17, 3) := by decide +kernel
theorem d_DateReader_takeYear_40 : decode prog_4_method_5_code 40 = .ok (.iload_n 2, 1) := by decide +kernel
theorem d_DateReader_takeYear_41 : decode prog_4_method_5_code 41 = .ok (.bipush 50, 2) := by decide +kernel
theorem d_DateReader_takeYear_43 : decode prog_4_method_5_code 43 = .ok (.if_icmp .ge 11, 3) := by decide +kernel
theorem d_DateReader_takeYear_46 : decode prog_4_method_5_code 46 = .ok (.sipush 2000, 3) := by decide +kernel
theorem d_DateReader_takeYear_49 : decode prog_4_method_5_code 49 = .ok (.iload_n 2, 1) := by decide +kernel
theorem d_DateReader_takeYear_50 : decode prog_4_method_5_code 50 = .ok (.iadd, 1) := by decide +kernel
theorem d_DateReader_takeYear_51 : decode prog_4_method_5_code 51 = .ok (.goto 8, 3) := by decide +kernel
theorem d_DateReader_takeYear_54 : decode prog_4_method_5_code 54 = .ok (.sipush 1900, 3) := by decide +kernel
theorem d_DateReader_takeYear_57 : decode prog_4_method_5_code 57 = .ok (.iload_n 2, 1) := by decide +kernel
theorem d_DateReader_takeYear_58 : decode prog_4_method_5_code 58 = .ok (.iadd, 1) := by decide +kernel
theorem d_DateReader_takeYear_59 : decode prog_4_method_5_code 59 = .ok (.ireturn, 1) := by decide +kernel
theorem d_DateReader_takeColon_0 : decode prog_4_method_6_code 0 = .ok (.aload_n 0, 1) := by decide +kernel
theorem d_DateReader_takeColon_1 : decode prog_4_method_6_code 1 = .ok (.getfield 11, 3) := by decide +kernel
theorem d_DateReader_takeColon_4 : decode prog_4_method_6_code 4 = .ok (.invokevirtual 21, 3) := by decide +kernel
theorem d_DateReader_takeColon_7 : decode prog_4_method_6_code 7 = .ok (.aload_n 0, 1) := by decide +kernel
theorem d_DateReader_takeColon_8 : decode prog_4_method_6_code 8 = .ok (.getfield 17, 3) := by decide +kernel
theorem d_DateReader_takeColon_11 : decode prog_4_method_6_code 11 = .ok (.invokevirtual 27, 3) := by decide +kernel
theorem d_DateReader_takeColon_14 : decode prog_4_method_6_code 14 = .ok (.bipush 58, 2) := by decide +kernel
theorem d_DateReader_takeColon_16 : decode prog_4_method_6_code 16 = .ok (.if_icmp .ne 7, 3) := by decide +kernel
theorem d_DateReader_takeColon_19 : decode prog_4_method_6_code 19 = .ok (.iconst 1, 1) := by decide +kernel
theorem d_DateReader_takeColon_20 : decode prog_4_method_6_code 20 = .ok (.goto 4, 3) := by decide +kernel
theorem d_DateReader_takeColon_23 : decode prog_4_method_6_code 23 = .ok (.iconst 0, 1) := by decide +kernel
theorem d_DateReader_takeColon_24 : decode prog_4_method_6_code 24 = .ok (.istore_n 1, 1) := by decide +kernel
theorem d_DateReader_takeColon_25 : decode prog_4_method_6_code 25 = .ok (.iload_n 1, 1) := by decide +kernel
theorem d_DateReader_takeColon_26 : decode prog_4_method_6_code 26 = .ok (.ifCond .eq 13, 3) := by decide +kernel
theorem d_DateReader_takeColon_29 : decode prog_4_method_6_code 29 = .ok (.aload_n 0, 1) := by decide +kernel
theorem d_DateReader_takeColon_30 : decode prog_4_method_6_code 30 = .ok (.dup, 1) := by decide +kernel
theorem d_DateReader_takeColon_31 : decode prog_4_method_6_code 31 = .ok (.getfield 17, 3) := by decide +kernel
theorem d_DateReader_takeColon_34 : decode prog_4_method_6_code 34 = .ok (.iconst 1, 1) := by decide +kernel
theorem d_DateReader_takeColon_35 : decode prog_4_method_6_code 35 = .ok (.iadd, 1) := by decide +kernel
theorem d_DateReader_takeColon_36 : decode prog_4_method_6_code 36 = .ok (.putfield 17, 3) := by decide +kernel
theorem d_DateReader_takeColon_39 : decode prog_4_method_6_code 39 = .ok (.iload_n 1, 1) := by decide +kernel
theorem d_DateReader_takeColon_40 : decode prog_4_method_6_code 40 = .ok (.ireturn, 1) := by decide +kernel
theorem d_DateReader_isBelow_0 : decode prog_4_method_12_code 0 = .ok (.iload_n 0, 1) := by decide +kernel
theorem d_DateReader_isBelow_1 : decode prog_4_method_12_code 1 = .ok (.ifCond .lt 12, 3) := by decide +kernel
theorem d_DateReader_isBelow_4 : decode prog_4_method_12_code 4 = .ok (.iload_n 0, 1) := by decide +kernel
theorem d_DateReader_isBelow_5 : decode prog_4_method_12_code 5 = .ok (.iload_n 1, 1) := by decide +kernel
theorem d_DateReader_isBelow_6 : decode prog_4_method_12_code 6 = .ok (.if_icmp .ge 7, 3) := by decide +kernel
theorem d_DateReader_isBelow_9 : decode prog_4_method_12_code 9 = .ok (.iconst 1, 1) := by decide +kernel
theorem d_DateReader_isBelow_10 : decode prog_4_method_12_code 10 = .ok (.goto 4, 3) := by decide +kernel
theorem d_DateReader_isBelow_13 : decode prog_4_method_12_code 13 = .ok (.iconst 0, 1) := by decide +kernel
theorem d_DateReader_isBelow_14 : decode prog_4_method_12_code 14 = .ok (.ireturn, 1) := by decide +kernel
theorem d_DateReader_isDay_0 : decode prog_4_method_13_code 0 = .ok (.iload_n 0, 1) := by decide +kernel
theorem d_DateReader_isDay_1 : decode prog_4_method_13_code 1 = .ok (.sipush 1900, 3) := by decide +kernel
theorem d_DateReader_isDay_4 : decode prog_4_method_13_code 4 = .ok (.if_icmp .lt 28, 3) := by decide +kernel
theorem d_DateReader_isDay_7 : decode prog_4_method_13_code 7 = .ok (.iload_n 0, 1) := by decide +kernel
theorem d_DateReader_isDay_8 : decode prog_4_method_13_code 8 = .ok (.sipush 2999, 3) := by decide +kernel
theorem d_DateReader_isDay_11 : decode prog_4_method_13_code 11 = .ok (.if_icmp .gt 21, 3) := by decide +kernel
theorem d_DateReader_isDay_14 : decode prog_4_method_13_code 14 = .ok (.iload_n 2, 1) := by decide +kernel
theorem d_DateReader_isDay_15 : decode prog_4_method_13_code 15 = .ok (.iconst 1, 1) := by decide +kernel
theorem d_DateReader_isDay_16 : decode prog_4_method_13_code 16 = .ok (.if_icmp .lt 16, 3) := by decide +kernel
theorem d_DateReader_isDay_19 : decode prog_4_method_13_code 19 = .ok (.iload_n 2, 1) := by decide +kernel
theorem d_DateReader_isDay_20 : decode prog_4_method_13_code 20 = .ok (.iload_n 0, 1) := by decide +kernel
