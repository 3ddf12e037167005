theorem d_Model_behindRoute_32 : decode prog_11_method_45_code 32 = .ok (.iconst 4, 1) := by decide +kernel
theorem d_Model_behindRoute_33 : decode prog_11_method_45_code 33 = .ok (.if_icmp .eq 35, 3) := by decide +kernel
theorem d_Model_behindRoute_36 : decode prog_11_method_45_code 36 = .ok (.aload_n 0, 1) := by decide +kernel
theorem d_Model_behindRoute_37 : decode prog_11_method_45_code 37 = .ok (.iload_n 3, 1) := by decide +kernel
theorem d_Model_behindRoute_38 : decode prog_11_method_45_code 38 = .ok (.bipush 64, 2) := by decide +kernel
theorem d_Model_behindRoute_40 : decode prog_11_method_45_code 40 = .ok (.invokevirtual 200, 3) := by decide +kernel
theorem d_Model_behindRoute_43 : decode prog_11_method_45_code 43 = .ok (.ifCond .ne 25, 3) := by decide +kernel
theorem d_Model_behindRoute_46 : decode prog_11_method_45_code 46 = .ok (.aload_n 0, 1) := by decide +kernel
theorem d_Model_behindRoute_47 : decode prog_11_method_45_code 47 = .ok (.iload_n 3, 1) := by decide +kernel
theorem d_Model_behindRoute_48 : decode prog_11_method_45_code 48 = .ok (.bipush 44, 2) := by decide +kernel
theorem d_Model_behindRoute_50 : decode prog_11_method_45_code 50 = .ok (.invokevirtual 200, 3) := by decide +kernel
theorem d_Model_behindRoute_53 : decode prog_11_method_45_code 53 = .ok (.ifCond .ne 15, 3) := by decide +kernel
theorem d_Model_behindRoute_56 : decode prog_11_method_45_code 56 = .ok (.aload_n 0, 1) := by decide +kernel
theorem d_Model_behindRoute_57 : decode prog_11_method_45_code 57 = .ok (.iload_n 3, 1) := by decide +kernel
theorem d_Model_behindRoute_58 : decode prog_11_method_45_code 58 = .ok (.bipush 46, 2) := by decide +kernel
theorem d_Model_behindRoute_60 : decode prog_11_method_45_code 60 = .ok (.invokevirtual 200, 3) := by decide +kernel
theorem d_Model_behindRoute_63 : decode prog_11_method_45_code 63 = .ok (.ifCond .ne 5, 3) := by decide +kernel
theorem d_Model_behindRoute_66 : decode prog_11_method_45_code 66 = .ok (.iload_n 1, 1) := by decide +kernel
theorem d_Model_behindRoute_67 : decode prog_11_method_45_code 67 = .ok (.ireturn, 1) := by decide +kernel
theorem d_Model_behindRoute_68 : decode prog_11_method_45_code 68 = .ok (.aload_n 0, 1) := by decide +kernel
theorem d_Model_behindRoute_69 : decode prog_11_method_45_code 69 = .ok (.iload_n 3, 1) := by decide +kernel
theorem d_Model_behindRoute_70 : decode prog_11_method_45_code 70 = .ok (.iconst 1, 1) := by decide +kernel
theorem d_Model_behindRoute_71 : decode prog_11_method_45_code 71 = .ok (.iadd, 1) := by decide +kernel
theorem d_Model_behindRoute_72 : decode prog_11_method_45_code 72 = .ok (.iload_n 2, 1) := by decide +kernel
theorem d_Model_behindRoute_73 : decode prog_11_method_45_code 73 = .ok (.invokevirtual 197, 3) := by decide +kernel
theorem d_Model_behindRoute_76 : decode prog_11_method_45_code 76 = .ok (.istore_n 3, 1) := by decide +kernel
theorem d_Model_behindRoute_77 : decode prog_11_method_45_code 77 = .ok (.goto (-70), 3) := by decide +kernel
theorem d_Model_behindRoute_80 : decode prog_11_method_45_code 80 = .ok (.iload_n 1, 1) := by decide +kernel
theorem d_Model_behindRoute_81 : decode prog_11_method_45_code 81 = .ok (.ireturn, 1) := by decide +kernel
theorem d_Model_makeWords_0 : decode prog_11_method_43_code 0 = .ok (.aload_n 0, 1) := by decide +kernel
theorem d_Model_makeWords_1 : decode prog_11_method_43_code 1 = .ok (.iload_n 1, 1) := by decide +kernel
theorem d_Model_makeWords_2 : decode prog_11_method_43_code 2 = .ok (.invokevirtual 204, 3) := by decide +kernel
theorem d_Model_makeWords_5 : decode prog_11_method_43_code 5 = .ok (.aload_n 0, 1) := by decide +kernel
theorem d_Model_makeWords_6 : decode prog_11_method_43_code 6 = .ok (.iload_n 2, 1) := by decide +kernel
theorem d_Model_makeWords_7 : decode prog_11_method_43_code 7 = .ok (.iload_n 3, 1) := by decide +kernel
theorem d_Model_makeWords_8 : decode prog_11_method_43_code 8 = .ok (.invokevirtual 197, 3) := by decide +kernel
theorem d_Model_makeWords_11 : decode prog_11_method_43_code 11 = .ok (.istore 4, 2) := by decide +kernel
theorem d_Model_makeWords_13 : decode prog_11_method_43_code 13 = .ok (.iload 4, 2) := by decide +kernel
theorem d_Model_makeWords_15 : decode prog_11_method_43_code 15 = .ok (.iload_n 3, 1) := by decide +kernel
theorem d_Model_makeWords_16 : decode prog_11_method_43_code 16 = .ok (.if_icmp .ge 60, 3) := by decide +kernel
theorem d_Model_makeWords_19 : decode prog_11_method_43_code 19 = .ok (.aload_n 0, 1) := by decide +kernel
theorem d_Model_makeWords_20 : decode prog_11_method_43_code 20 = .ok (.getfield 31, 3) := by decide +kernel
theorem d_Model_makeWords_23 : decode prog_11_method_43_code 23 = .ok (.iload 4, 2) := by decide +kernel
theorem d_Model_makeWords_25 : decode prog_11_method_43_code 25 = .ok (.iaload, 1) := by decide +kernel
theorem d_Model_makeWords_26 : decode prog_11_method_43_code 26 = .ok (.iconst 2, 1) := by decide +kernel
theorem d_Model_makeWords_27 : decode prog_11_method_43_code 27 = .ok (.if_icmp .ne 10, 3) := by decide +kernel
theorem d_Model_makeWords_30 : decode prog_11_method_43_code 30 = .ok (.aload_n 0, 1) := by decide +kernel
theorem d_Model_makeWords_31 : decode prog_11_method_43_code 31 = .ok (.iload_n 1, 1) := by decide +kernel
theorem d_Model_makeWords_32 : decode prog_11_method_43_code 32 = .ok (.bipush 91, 2) := by decide +kernel
theorem d_Model_makeWords_34 : decode prog_11_method_43_code 34 = .ok (.invokevirtual 191, 3) := by decide +kernel
theorem d_Model_makeWords_37 : decode prog_11_method_43_code 37 = .ok (.aload_n 0, 1) := by decide +kernel
theorem d_Model_makeWords_38 : decode prog_11_method_43_code 38 = .ok (.iload_n 1, 1) := by decide +kernel
theorem d_Model_makeWords_39 : decode prog_11_method_43_code 39 = .ok (.iload 4, 2) := by decide +kernel
theorem d_Model_makeWords_41 : decode prog_11_method_43_code 41 = .ok (.invokevirtual 207, 3) := by decide +kernel
theorem d_Model_makeWords_44 : decode prog_11_method_43_code 44 = .ok (.aload_n 0, 1) := by decide +kernel
theorem d_Model_makeWords_45 : decode prog_11_method_43_code 45 = .ok (.getfield 31, 3) := by decide +kernel
theorem d_Model_makeWords_48 : decode prog_11_method_43_code 48 = .ok (.iload 4, 2) := by decide +kernel
theorem d_Model_makeWords_50 : decode prog_11_method_43_code 50 = .ok (.iaload, 1) := by decide +kernel
theorem d_Model_makeWords_51 : decode prog_11_method_43_code 51 = .ok (.iconst 2, 1) := by decide +kernel
theorem d_Model_makeWords_52 : decode prog_11_method_43_code 52 = .ok (.if_icmp .ne 10, 3) := by decide +kernel
theorem d_Model_makeWords_55 : decode prog_11_method_43_code 55 = .ok (.aload_n 0, 1) := by decide +kernel
theorem d_Model_makeWords_56 : decode prog_11_method_43_code 56 = .ok (.iload_n 1, 1) := by decide +kernel
theorem d_Model_makeWords_57 : decode prog_11_method_43_code 57 = .ok (.bipush 93, 2) := by decide +kernel
theorem d_Model_makeWords_59 : decode prog_11_method_43_code 59 = .ok (.invokevirtual 191, 3) := by decide +kernel
theorem d_Model_makeWords_62 : decode prog_11_method_43_code 62 = .ok (.aload_n 0, 1) := by decide +kernel
theorem d_Model_makeWords_63 : decode prog_11_method_43_code 63 = .ok (.iload 4, 2) := by decide +kernel
theorem d_Model_makeWords_65 : decode prog_11_method_43_code 65 = .ok (.iconst 1, 1) := by decide +kernel
theorem d_Model_makeWords_66 : decode prog_11_method_43_code 66 = .ok (.iadd, 1) := by decide +kernel
theorem d_Model_makeWords_67 : decode prog_11_method_43_code 67 = .ok (.iload_n 3, 1) := by decide +kernel
theorem d_Model_makeWords_68 : decode prog_11_method_43_code 68 = .ok (.invokevirtual 197, 3) := by decide +kernel
theorem d_Model_makeWords_71 : decode prog_11_method_43_code 71 = .ok (.istore 4, 2) := by decide +kernel
theorem d_Model_makeWords_73 : decode prog_11_method_43_code 73 = .ok (.goto (-60), 3) := by decide +kernel
theorem d_Model_makeWords_76 : decode prog_11_method_43_code 76 = .ok (.aload_n 0, 1) := by decide +kernel
theorem d_Model_makeWords_77 : decode prog_11_method_43_code 77 = .ok (.iload_n 1, 1) := by decide +kernel
theorem d_Model_makeWords_78 : decode prog_11_method_43_code 78 = .ok (.invokevirtual 210, 3) := by decide +kernel
theorem d_Model_makeWords_81 : decode prog_11_method_43_code 81 = .ok (.return_, 1) := by decide +kernel
theorem d_Model_takeMailbox_0 : decode prog_11_method_46_code 0 = .ok (.aload_n 0, 1) := by decide +kernel
theorem d_Model_takeMailbox_1 : decode prog_11_method_46_code 1 = .ok (.iload_n 1, 1) := by decide +kernel
theorem d_Model_takeMailbox_2 : decode prog_11_method_46_code 2 = .ok (.iload_n 2, 1) := by decide +kernel
theorem d_Model_takeMailbox_3 : decode prog_11_method_46_code 3 = .ok (.invokevirtual 197, 3) := by decide +kernel
theorem d_Model_takeMailbox_6 : decode prog_11_method_46_code 6 = .ok (.iload_n 2, 1) := by decide +kernel
theorem d_Model_takeMailbox_7 : decode prog_11_method_46_code 7 = .ok (.if_icmp .ne 4, 3) := by decide +kernel
theorem d_Model_takeMailbox_10 : decode prog_11_method_46_code 10 = .ok (.return_, 1) := by decide +kernel
theorem d_Model_takeMailbox_11 : decode prog_11_method_46_code 11 = .ok (.iload_n 1, 1) := by decide +kernel
theorem d_Model_takeMailbox_12 : decode prog_11_method_46_code 12 = .ok (.istore 5, 2) := by decide +kernel
theorem d_Model_takeMailbox_14 : decode prog_11_method_46_code 14 = .ok (.iload 5, 2) := by decide +kernel
theorem d_Model_takeMailbox_16 : decode prog_11_method_46_code 16 = .ok (.iload_n 2, 1) := by decide +kernel
theorem d_Model_takeMailbox_17 : decode prog_11_method_46_code 17 = .ok (.if_icmp .ge 20, 3) := by decide +kernel
theorem d_Model_takeMailbox_20 : decode prog_11_method_46_code 20 = .ok (.aload_n 0, 1) := by decide +kernel
theorem d_Model_takeMailbox_21 : decode prog_11_method_46_code 21 = .ok (.iload 5, 2) := by decide +kernel
theorem d_Model_takeMailbox_23 : decode prog_11_method_46_code 23 = .ok (.bipush 60, 2) := by decide +kernel
theorem d_Model_takeMailbox_25 : decode prog_11_method_46_code 25 = .ok (.invokevirtual 200, 3) := by decide +kernel
theorem d_Model_takeMailbox_28 : decode prog_11_method_46_code 28 = .ok (.ifCond .ne 9, 3) := by decide +kernel
theorem d_Model_takeMailbox_31 : decode prog_11_method_46_code 31 = .ok (.iinc 5 1, 3) := by decide +kernel
theorem d_Model_takeMailbox_34 : decode prog_11_method_46_code 34 = .ok (.goto (-20), 3) := by decide +kernel
theorem d_Model_takeMailbox_37 : decode prog_11_method_46_code 37 = .ok (.iload_n 3, 1) := by decide +kernel
theorem d_Model_takeMailbox_38 : decode prog_11_method_46_code 38 = .ok (.ifCond .eq 14, 3) := by decide +kernel
theorem d_Model_takeMailbox_41 : decode prog_11_method_46_code 41 = .ok (.aload_n 0, 1) := by decide +kernel
theorem d_Model_takeMailbox_42 : decode prog_11_method_46_code 42 = .ok (.dup, 1) := by decide +kernel
theorem d_Model_takeMailbox_43 : decode prog_11_method_46_code 43 = .ok (.getfield 227, 3) := by decide +kernel
theorem d_Model_takeMailbox_46 : decode prog_11_method_46_code 46 = .ok (.iconst 1, 1) := by decide +kernel
theorem d_Model_takeMailbox_47 : decode prog_11_method_46_code 47 = .ok (.iadd, 1) := by decide +kernel
theorem d_Model_takeMailbox_48 : decode prog_11_method_46_code 48 = .ok (.putfield 227, 3) := by decide +kernel
theorem d_Model_takeMailbox_51 : decode prog_11_method_46_code 51 = .ok (.return_, 1) := by decide +kernel
theorem d_Model_takeMailbox_52 : decode prog_11_method_46_code 52 = .ok (.iload_n 1, 1) := by decide +kernel
theorem d_Model_takeMailbox_53 : decode prog_11_method_46_code 53 = .ok (.istore 6, 2) := by decide +kernel
theorem d_Model_takeMailbox_55 : decode prog_11_method_46_code 55 = .ok (.iload_n 2, 1) := by decide +kernel
theorem d_Model_takeMailbox_56 : decode prog_11_method_46_code 56 = .ok (.istore 7, 2) := by decide +kernel
theorem d_Model_takeMailbox_58 : decode prog_11_method_46_code 58 = .ok (.iconst 1, 1) := by decide +kernel
theorem d_Model_takeMailbox_59 : decode prog_11_method_46_code 59 = .ok (.istore 8, 2) := by decide +kernel
theorem d_Model_takeMailbox_61 : decode prog_11_method_46_code 61 = .ok (.iload 5, 2) := by decide +kernel
theorem d_Model_takeMailbox_63 : decode prog_11_method_46_code 63 = .ok (.iload_n 2, 1) := by decide +kernel
theorem d_Model_takeMailbox_64 : decode prog_11_method_46_code 64 = .ok (.if_icmp .ge 82, 3) := by decide +kernel
theorem d_Model_takeMailbox_67 : decode prog_11_method_46_code 67 = .ok (.iload 5, 2) := by decide +kernel
theorem d_Model_takeMailbox_69 : decode prog_11_method_46_code 69 = .ok (.istore 9, 2) := by decide +kernel
theorem d_Model_takeMailbox_71 : decode prog_11_method_46_code 71 = .ok (.aload_n 0, 1) := by decide +kernel
theorem d_Model_takeMailbox_72 : decode prog_11_method_46_code 72 = .ok (.iload 9, 2) := by decide +kernel
theorem d_Model_takeMailbox_74 : decode prog_11_method_46_code 74 = .ok (.bipush 62, 2) := by decide +kernel
theorem d_Model_takeMailbox_76 : decode prog_11_method_46_code 76 = .ok (.invokevirtual 200, 3) := by decide +kernel
theorem d_Model_takeMailbox_79 : decode prog_11_method_46_code 79 = .ok (.ifCond .ne 9, 3) := by decide +kernel
theorem d_Model_takeMailbox_82 : decode prog_11_method_46_code 82 = .ok (.iinc 9 1, 3) := by decide +kernel
theorem d_Model_takeMailbox_85 : decode prog_11_method_46_code 85 = .ok (.goto (-14), 3) := by decide +kernel
theorem d_Model_takeMailbox_88 : decode prog_11_method_46_code 88 = .ok (.aload_n 0, 1) := by decide +kernel
theorem d_Model_takeMailbox_89 : decode prog_11_method_46_code 89 = .ok (.iload 5, 2) := by decide +kernel
theorem d_Model_takeMailbox_91 : decode prog_11_method_46_code 91 = .ok (.iconst 1, 1) := by decide +kernel
theorem d_Model_takeMailbox_92 : decode prog_11_method_46_code 92 = .ok (.iadd, 1) := by decide +kernel
theorem d_Model_takeMailbox_93 : decode prog_11_method_46_code 93 = .ok (.iload 9, 2) := by decide +kernel
theorem d_Model_takeMailbox_95 : decode prog_11_method_46_code 95 = .ok (.invokevirtual 230, 3) := by decide +kernel
theorem d_Model_takeMailbox_98 : decode prog_11_method_46_code 98 = .ok (.istore 6, 2) := by decide +kernel
theorem d_Model_takeMailbox_100 : decode prog_11_method_46_code 100 = .ok (.iload 9, 2) := by decide +kernel
theorem d_Model_takeMailbox_102 : decode prog_11_method_46_code 102 = .ok (.istore 7, 2) := by decide +kernel
theorem d_Model_takeMailbox_104 : decode prog_11_method_46_code 104 = .ok (.aload_n 0, 1) := by decide +kernel
theorem d_Model_takeMailbox_105 : decode prog_11_method_46_code 105 = .ok (.iload 9, 2) := by decide +kernel
theorem d_Model_takeMailbox_107 : decode prog_11_method_46_code 107 = .ok (.iconst 1, 1) := by decide +kernel
theorem d_Model_takeMailbox_108 : decode prog_11_method_46_code 108 = .ok (.iadd, 1) := by decide +kernel
theorem d_Model_takeMailbox_109 : decode prog_11_method_46_code 109 = .ok (.iload_n 2, 1) := by decide +kernel
theorem d_Model_takeMailbox_110 : decode prog_11_method_46_code 110 = .ok (.invokevirtual 197, 3) := by decide +kernel
theorem d_Model_takeMailbox_113 : decode prog_11_method_46_code 113 = .ok (.iload_n 2, 1) := by decide +kernel
theorem d_Model_takeMailbox_114 : decode prog_11_method_46_code 114 = .ok (.if_icmp .ne 29, 3) := by decide +kernel
theorem d_Model_takeMailbox_117 : decode prog_11_method_46_code 117 = .ok (.aload_n 0, 1) := by decide +kernel
theorem d_Model_takeMailbox_118 : decode prog_11_method_46_code 118 = .ok (.iload_n 1, 1) := by decide +kernel
theorem d_Model_takeMailbox_119 : decode prog_11_method_46_code 119 = .ok (.iload 5, 2) := by decide +kernel
theorem d_Model_takeMailbox_121 : decode prog_11_method_46_code 121 = .ok (.invokevirtual 197, 3) := by decide +kernel
theorem d_Model_takeMailbox_124 : decode prog_11_method_46_code 124 = .ok (.iload 5, 2) := by decide +kernel
theorem d_Model_takeMailbox_126 : decode prog_11_method_46_code 126 = .ok (.if_icmp .eq 13, 3) := by decide +kernel
theorem d_Model_takeMailbox_129 : decode prog_11_method_46_code 129 = .ok (.aload_n 0, 1) := by decide +kernel
theorem d_Model_takeMailbox_130 : decode prog_11_method_46_code 130 = .ok (.iload_n 1, 1) := by decide +kernel
theorem d_Model_takeMailbox_131 : decode prog_11_method_46_code 131 = .ok (.iload 5, 2) := by decide +kernel
theorem d_Model_takeMailbox_133 : decode prog_11_method_46_code 133 = .ok (.invokevirtual 233, 3) := by decide +kernel
theorem d_Model_takeMailbox_136 : decode prog_11_method_46_code 136 = .ok (.ifCond .eq 7, 3) := by decide +kernel
theorem d_Model_takeMailbox_139 : decode prog_11_method_46_code 139 = .ok (.iconst 1, 1) := by decide +kernel
theorem d_Model_takeMailbox_140 : decode prog_11_method_46_code 140 = .ok (.goto 4, 3) := by decide +kernel
theorem d_Model_takeMailbox_143 : decode prog_11_method_46_code 143 = .ok (.iconst 0, 1) := by decide +kernel
theorem d_Model_takeMailbox_144 : decode prog_11_method_46_code 144 = .ok (.istore 8, 2) := by decide +kernel
theorem d_Model_takeMailbox_146 : decode prog_11_method_46_code 146 = .ok (.iload 8, 2) := by decide +kernel
theorem d_Model_takeMailbox_148 : decode prog_11_method_46_code 148 = .ok (.ifCond .eq 14, 3) := by decide +kernel
theorem d_Model_takeMailbox_151 : decode prog_11_method_46_code 151 = .ok (.aload_n 0, 1) := by decide +kernel
theorem d_Model_takeMailbox_152 : decode prog_11_method_46_code 152 = .ok (.iload 6, 2) := by decide +kernel
theorem d_Model_takeMailbox_154 : decode prog_11_method_46_code 154 = .ok (.iload 7, 2) := by decide +kernel
theorem d_Model_takeMailbox_156 : decode prog_11_method_46_code 156 = .ok (.invokevirtual 236, 3) := by decide +kernel
theorem d_Model_takeMailbox_159 : decode prog_11_method_46_code 159 = .ok (.ifCond .ne 14, 3) := by decide +kernel
theorem d_Model_takeMailbox_162 : decode prog_11_method_46_code 162 = .ok (.aload_n 0, 1) := by decide +kernel
theorem d_Model_takeMailbox_163 : decode prog_11_method_46_code 163 = .ok (.dup, 1) := by decide +kernel
theorem d_Model_takeMailbox_164 : decode prog_11_method_46_code 164 = .ok (.getfield 227, 3) := by decide +kernel
theorem d_Model_takeMailbox_167 : decode prog_11_method_46_code 167 = .ok (.iconst 1, 1) := by decide +kernel
theorem d_Model_takeMailbox_168 : decode prog_11_method_46_code 168 = .ok (.iadd, 1) := by decide +kernel
theorem d_Model_takeMailbox_169 : decode prog_11_method_46_code 169 = .ok (.putfield 227, 3) := by decide +kernel
theorem d_Model_takeMailbox_172 : decode prog_11_method_46_code 172 = .ok (.return_, 1) := by decide +kernel
theorem d_Model_takeMailbox_173 : decode prog_11_method_46_code 173 = .ok (.aload_n 0, 1) := by decide +kernel
theorem d_Model_takeMailbox_174 : decode prog_11_method_46_code 174 = .ok (.getfield 221, 3) := by decide +kernel
theorem d_Model_takeMailbox_177 : decode prog_11_method_46_code 177 = .ok (.istore 9, 2) := by decide +kernel
theorem d_Model_takeMailbox_179 : decode prog_11_method_46_code 179 = .ok (.aload_n 0, 1) := by decide +kernel
theorem d_Model_takeMailbox_180 : decode prog_11_method_46_code 180 = .ok (.getfield 224, 3) := by decide +kernel
theorem d_Model_takeMailbox_183 : decode prog_11_method_46_code 183 = .ok (.istore 10, 2) := by decide +kernel
theorem d_Model_takeMailbox_185 : decode prog_11_method_46_code 185 = .ok (.iload 5, 2) := by decide +kernel
theorem d_Model_takeMailbox_187 : decode prog_11_method_46_code 187 = .ok (.iload_n 2, 1) := by decide +kernel
theorem d_Model_takeMailbox_188 : decode prog_11_method_46_code 188 = .ok (.if_icmp .ge 26, 3) := by decide +kernel
theorem d_Model_takeMailbox_191 : decode prog_11_method_46_code 191 = .ok (.aload_n 0, 1) := by decide +kernel
theorem d_Model_takeMailbox_192 : decode prog_11_method_46_code 192 = .ok (.iload_n 1, 1) := by decide +kernel
theorem d_Model_takeMailbox_193 : decode prog_11_method_46_code 193 = .ok (.iload 5, 2) := by decide +kernel
theorem d_Model_takeMailbox_195 : decode prog_11_method_46_code 195 = .ok (.invokevirtual 197, 3) := by decide +kernel
theorem d_Model_takeMailbox_198 : decode prog_11_method_46_code 198 = .ok (.iload 5, 2) := by decide +kernel
theorem d_Model_takeMailbox_200 : decode prog_11_method_46_code 200 = .ok (.if_icmp .ge 14, 3) := by decide +kernel
theorem d_Model_takeMailbox_203 : decode prog_11_method_46_code 203 = .ok (.aload_n 0, 1) := by decide +kernel
theorem d_Model_takeMailbox_204 : decode prog_11_method_46_code 204 = .ok (.iconst 0, 1) := by decide +kernel
theorem d_Model_takeMailbox_205 : decode prog_11_method_46_code 205 = .ok (.iload_n 1, 1) := by decide +kernel
theorem d_Model_takeMailbox_206 : decode prog_11_method_46_code 206 = .ok (.iload 5, 2) := by decide +kernel
theorem d_Model_takeMailbox_208 : decode prog_11_method_46_code 208 = .ok (.invokevirtual 239, 3) := by decide +kernel
theorem d_Model_takeMailbox_211 : decode prog_11_method_46_code 211 = .ok (.goto 9, 3) := by decide +kernel
theorem d_Model_takeMailbox_214 : decode prog_11_method_46_code 214 = .ok (.aload_n 0, 1) := by decide +kernel
theorem d_Model_takeMailbox_215 : decode prog_11_method_46_code 215 = .ok (.iload_n 1, 1) := by decide +kernel
theorem d_Model_takeMailbox_216 : decode prog_11_method_46_code 216 = .ok (.iload_n 2, 1) := by decide +kernel
theorem d_Model_takeMailbox_217 : decode prog_11_method_46_code 217 = .ok (.invokevirtual 242, 3) := by decide +kernel
theorem d_Model_takeMailbox_220 : decode prog_11_method_46_code 220 = .ok (.aload_n 0, 1) := by decide +kernel
theorem d_Model_takeMailbox_221 : decode prog_11_method_46_code 221 = .ok (.getfield 61, 3) := by decide +kernel
theorem d_Model_takeMailbox_224 : decode prog_11_method_46_code 224 = .ok (.aload_n 0, 1) := by decide +kernel
theorem d_Model_takeMailbox_225 : decode prog_11_method_46_code 225 = .ok (.getfield 52, 3) := by decide +kernel
theorem d_Model_takeMailbox_228 : decode prog_11_method_46_code 228 = .ok (.iconst 1, 1) := by decide +kernel
theorem d_Model_takeMailbox_229 : decode prog_11_method_46_code 229 = .ok (.iaload, 1) := by decide +kernel
theorem d_Model_takeMailbox_230 : decode prog_11_method_46_code 230 = .ok (.iload 4, 2) := by decide +kernel
theorem d_Model_takeMailbox_232 : decode prog_11_method_46_code 232 = .ok (.iastore, 1) := by decide +kernel
theorem d_Model_takeMailbox_233 : decode prog_11_method_46_code 233 = .ok (.aload_n 0, 1) := by decide +kernel
theorem d_Model_takeMailbox_234 : decode prog_11_method_46_code 234 = .ok (.iconst 1, 1) := by decide +kernel
theorem d_Model_takeMailbox_235 : decode prog_11_method_46_code 235 = .ok (.iload 6, 2) := by decide +kernel
theorem d_Model_takeMailbox_237 : decode prog_11_method_46_code 237 = .ok (.iload 9, 2) := by decide +kernel
theorem d_Model_takeMailbox_239 : decode prog_11_method_46_code 239 = .ok (.invokevirtual 245, 3) := by decide +kernel
theorem d_Model_takeMailbox_242 : decode prog_11_method_46_code 242 = .ok (.aload_n 0, 1) := by decide +kernel
theorem d_Model_takeMailbox_243 : decode prog_11_method_46_code 243 = .ok (.iconst 2, 1) := by decide +kernel
theorem d_Model_takeMailbox_244 : decode prog_11_method_46_code 244 = .ok (.iload 10, 2) := by decide +kernel
theorem d_Model_takeMailbox_246 : decode prog_11_method_46_code 246 = .ok (.iload 7, 2) := by decide +kernel
theorem d_Model_takeMailbox_248 : decode prog_11_method_46_code 248 = .ok (.invokevirtual 245, 3) := by decide +kernel
theorem d_Model_takeMailbox_251 : decode prog_11_method_46_code 251 = .ok (.return_, 1) := by decide +kernel
theorem d_Model_endWord_0 : decode prog_11_method_20_code 0 = .ok (.aload_n 0, 1) := by decide +kernel
theorem d_Model_endWord_1 : decode prog_11_method_20_code 1 = .ok (.getfield 40, 3) := by decide +kernel
theorem d_Model_endWord_4 : decode prog_11_method_20_code 4 = .ok (.aload_n 0, 1) := by decide +kernel
theorem d_Model_endWord_5 : decode prog_11_method_20_code 5 = .ok (.getfield 149, 3) := by decide +kernel
theorem d_Model_endWord_8 : decode prog_11_method_20_code 8 = .ok (.aload_n 0, 1) := by decide +kernel
theorem d_Model_endWord_9 : decode prog_11_method_20_code 9 = .ok (.getfield 152, 3) := by decide +kernel
theorem d_Model_endWord_12 : decode prog_11_method_20_code 12 = .ok (.iastore, 1) := by decide +kernel
theorem d_Model_endWord_13 : decode prog_11_method_20_code 13 = .ok (.aload_n 0, 1) := by decide +kernel
theorem d_Model_endWord_14 : decode prog_11_method_20_code 14 = .ok (.dup, 1) := by decide +kernel
theorem d_Model_endWord_15 : decode prog_11_method_20_code 15 = .ok (.getfield 149, 3) := by decide +kernel
theorem d_Model_endWord_18 : decode prog_11_method_20_code 18 = .ok (.iconst 1, 1) := by decide +kernel
theorem d_Model_endWord_19 : decode prog_11_method_20_code 19 = .ok (.iadd, 1) := by decide +kernel
theorem d_Model_endWord_20 : decode prog_11_method_20_code 20 = .ok (.putfield 149, 3) := by decide +kernel
theorem d_Model_endWord_23 : decode prog_11_method_20_code 23 = .ok (.return_, 1) := by decide +kernel
theorem d_Model_beginWord_0 : decode prog_11_method_19_code 0 = .ok (.aload_n 0, 1) := by decide +kernel
theorem d_Model_beginWord_1 : decode prog_11_method_19_code 1 = .ok (.getfield 31, 3) := by decide +kernel
theorem d_Model_beginWord_4 : decode prog_11_method_19_code 4 = .ok (.aload_n 0, 1) := by decide +kernel
theorem d_Model_beginWord_5 : decode prog_11_method_19_code 5 = .ok (.getfield 149, 3) := by decide +kernel
theorem d_Model_beginWord_8 : decode prog_11_method_19_code 8 = .ok (.iload_n 1, 1) := by decide +kernel
theorem d_Model_beginWord_9 : decode prog_11_method_19_code 9 = .ok (.iastore, 1) := by decide +kernel
theorem d_Model_beginWord_10 : decode prog_11_method_19_code 10 = .ok (.aload_n 0, 1) := by decide +kernel
theorem d_Model_beginWord_11 : decode prog_11_method_19_code 11 = .ok (.getfield 34, 3) := by decide +kernel
theorem d_Model_beginWord_14 : decode prog_11_method_19_code 14 = .ok (.aload_n 0, 1) := by decide +kernel
theorem d_Model_beginWord_15 : decode prog_11_method_19_code 15 = .ok (.getfield 149, 3) := by decide +kernel
theorem d_Model_beginWord_18 : decode prog_11_method_19_code 18 = .ok (.iload_n 2, 1) := by decide +kernel
theorem d_Model_beginWord_19 : decode prog_11_method_19_code 19 = .ok (.iastore, 1) := by decide +kernel
theorem d_Model_beginWord_20 : decode prog_11_method_19_code 20 = .ok (.aload_n 0, 1) := by decide +kernel
theorem d_Model_beginWord_21 : decode prog_11_method_19_code 21 = .ok (.getfield 37, 3) := by decide +kernel
theorem d_Model_beginWord_24 : decode prog_11_method_19_code 24 = .ok (.aload_n 0, 1) := by decide +kernel
theorem d_Model_beginWord_25 : decode prog_11_method_19_code 25 = .ok (.getfield 149, 3) := by decide +kernel
theorem d_Model_beginWord_28 : decode prog_11_method_19_code 28 = .ok (.aload_n 0, 1) := by decide +kernel
theorem d_Model_beginWord_29 : decode prog_11_method_19_code 29 = .ok (.getfield 152, 3) := by decide +kernel
theorem d_Model_beginWord_32 : decode prog_11_method_19_code 32 = .ok (.iastore, 1) := by decide +kernel
theorem d_Model_beginWord_33 : decode prog_11_method_19_code 33 = .ok (.return_, 1) := by decide +kernel
theorem d_Model_put_0 : decode prog_11_method_21_code 0 = .ok (.aload_n 0, 1) := by decide +kernel
theorem d_Model_put_1 : decode prog_11_method_21_code 1 = .ok (.getfield 43, 3) := by decide +kernel
theorem d_Model_put_4 : decode prog_11_method_21_code 4 = .ok (.aload_n 0, 1) := by decide +kernel
theorem d_Model_put_5 : decode prog_11_method_21_code 5 = .ok (.getfield 152, 3) := by decide +kernel
theorem d_Model_put_8 : decode prog_11_method_21_code 8 = .ok (.iload_n 1, 1) := by decide +kernel
theorem d_Model_put_9 : decode prog_11_method_21_code 9 = .ok (.iastore, 1) := by decide +kernel
theorem d_Model_put_10 : decode prog_11_method_21_code 10 = .ok (.aload_n 0, 1) := by decide +kernel
theorem d_Model_put_11 : decode prog_11_method_21_code 11 = .ok (.dup, 1) := by decide +kernel
theorem d_Model_put_12 : decode prog_11_method_21_code 12 = .ok (.getfield 152, 3) := by decide +kernel
theorem d_Model_put_15 : decode prog_11_method_21_code 15 = .ok (.iconst 1, 1) := by decide +kernel
theorem d_Model_put_16 : decode prog_11_method_21_code 16 = .ok (.iadd, 1) := by decide +kernel
theorem d_Model_put_17 : decode prog_11_method_21_code 17 = .ok (.putfield 152, 3) := by decide +kernel
theorem d_Model_put_20 : decode prog_11_method_21_code 20 = .ok (.return_, 1) := by decide +kernel
theorem d_Model_takeEnclosed_0 : decode prog_11_method_22_code 0 = .ok (.aload_n 0, 1) := by decide +kernel
theorem d_Model_takeEnclosed_1 : decode prog_11_method_22_code 1 = .ok (.iload_n 1, 1) := by decide +kernel
theorem d_Model_takeEnclosed_2 : decode prog_11_method_22_code 2 = .ok (.iconst 0, 1) := by decide +kernel
theorem d_Model_takeEnclosed_3 : decode prog_11_method_22_code 3 = .ok (.invokevirtual 155, 3) := by decide +kernel
theorem d_Model_takeEnclosed_6 : decode prog_11_method_22_code 6 = .ok (.aload_n 0, 1) := by decide +kernel
theorem d_Model_takeEnclosed_7 : decode prog_11_method_22_code 7 = .ok (.dup, 1) := by decide +kernel
theorem d_Model_takeEnclosed_8 : decode prog_11_method_22_code 8 = .ok (.getfield 143, 3) := by decide +kernel
theorem d_Model_takeEnclosed_11 : decode prog_11_method_22_code 11 = .ok (.iconst 1, 1) := by decide +kernel
theorem d_Model_takeEnclosed_12 : decode prog_11_method_22_code 12 = .ok (.iadd, 1) := by decide +kernel
theorem d_Model_takeEnclosed_13 : decode prog_11_method_22_code 13 = .ok (.putfield 143, 3) := by decide +kernel
theorem d_Model_takeEnclosed_16 : decode prog_11_method_22_code 16 = .ok (.iconst 1, 1) := by decide +kernel
theorem d_Model_takeEnclosed_17 : decode prog_11_method_22_code 17 = .ok (.istore_n 3, 1) := by decide +kernel
theorem d_Model_takeEnclosed_18 : decode prog_11_method_22_code 18 = .ok (.aload_n 0, 1) := by decide +kernel
theorem d_Model_takeEnclosed_19 : decode prog_11_method_22_code 19 = .ok (.getfield 143, 3) := by decide +kernel
theorem d_Model_takeEnclosed_22 : decode prog_11_method_22_code 22 = .ok (.aload_n 0, 1) := by decide +kernel
theorem d_Model_takeEnclosed_23 : decode prog_11_method_22_code 23 = .ok (.getfield 146, 3) := by decide +kernel
theorem d_Model_takeEnclosed_26 : decode prog_11_method_22_code 26 = .ok (.if_icmp .ge 108, 3) := by decide +kernel
theorem d_Model_takeEnclosed_29 : decode prog_11_method_22_code 29 = .ok (.iload_n 3, 1) := by decide +kernel
theorem d_Model_takeEnclosed_30 : decode prog_11_method_22_code 30 = .ok (.ifCond .le 104, 3) := by decide +kernel
theorem d_Model_takeEnclosed_33 : decode prog_11_method_22_code 33 = .ok (.aload_n 0, 1) := by decide +kernel
theorem d_Model_takeEnclosed_34 : decode prog_11_method_22_code 34 = .ok (.getfield 28, 3) := by decide +kernel
theorem d_Model_takeEnclosed_37 : decode prog_11_method_22_code 37 = .ok (.aload_n 0, 1) := by decide +kernel
theorem d_Model_takeEnclosed_38 : decode prog_11_method_22_code 38 = .ok (.getfield 143, 3) := by decide +kernel
theorem d_Model_takeEnclosed_41 : decode prog_11_method_22_code 41 = .ok (.iaload, 1) := by decide +kernel
theorem d_Model_takeEnclosed_42 : decode prog_11_method_22_code 42 = .ok (.istore 4, 2) := by decide +kernel
theorem d_Model_takeEnclosed_44 : decode prog_11_method_22_code 44 = .ok (.aload_n 0, 1) := by decide +kernel
theorem d_Model_takeEnclosed_45 : decode prog_11_method_22_code 45 = .ok (.dup, 1) := by decide +kernel
theorem d_Model_takeEnclosed_46 : decode prog_11_method_22_code 46 = .ok (.getfield 143, 3) := by decide +kernel
theorem d_Model_takeEnclosed_49 : decode prog_11_method_22_code 49 = .ok (.iconst 1, 1) := by decide +kernel
theorem d_Model_takeEnclosed_50 : decode prog_11_method_22_code 50 = .ok (.iadd, 1) := by decide +kernel
theorem d_Model_takeEnclosed_51 : decode prog_11_method_22_code 51 = .ok (.putfield 143, 3) := by decide +kernel
theorem d_Model_takeEnclosed_54 : decode prog_11_method_22_code 54 = .ok (.iload 4, 2) := by decide +kernel
theorem d_Model_takeEnclosed_56 : decode prog_11_method_22_code 56 = .ok (.bipush 92, 2) := by decide +kernel
theorem d_Model_takeEnclosed_58 : decode prog_11_method_22_code 58 = .ok (.if_icmp .ne 40, 3) := by decide +kernel
theorem d_Model_takeEnclosed_61 : decode prog_11_method_22_code 61 = .ok (.aload_n 0, 1) := by decide +kernel
theorem d_Model_takeEnclosed_62 : decode prog_11_method_22_code 62 = .ok (.getfield 143, 3) := by decide +kernel
theorem d_Model_takeEnclosed_65 : decode prog_11_method_22_code 65 = .ok (.aload_n 0, 1) := by decide +kernel
theorem d_Model_takeEnclosed_66 : decode prog_11_method_22_code 66 = .ok (.getfield 146, 3) := by decide +kernel
theorem d_Model_takeEnclosed_69 : decode prog_11_method_22_code 69 = .ok (.if_icmp .ge 62, 3) := by decide +kernel
theorem d_Model_takeEnclosed_72 : decode prog_11_method_22_code 72 = .ok (.aload_n 0, 1) := by decide +kernel
theorem d_Model_takeEnclosed_73 : decode prog_11_method_22_code 73 = .ok (.aload_n 0, 1) := by decide +kernel
theorem d_Model_takeEnclosed_74 : decode prog_11_method_22_code 74 = .ok (.getfield 28, 3) := by decide +kernel
theorem d_Model_takeEnclosed_77 : decode prog_11_method_22_code 77 = .ok (.aload_n 0, 1) := by decide +kernel
theorem d_Model_takeEnclosed_78 : decode prog_11_method_22_code 78 = .ok (.getfield 143, 3) := by decide +kernel
theorem d_Model_takeEnclosed_81 : decode prog_11_method_22_code 81 = .ok (.iaload, 1) := by decide +kernel
theorem d_Model_takeEnclosed_82 : decode prog_11_method_22_code 82 = .ok (.invokevirtual 158, 3) := by decide +kernel
theorem d_Model_takeEnclosed_85 : decode prog_11_method_22_code 85 = .ok (.aload_n 0, 1) := by decide +kernel
theorem d_Model_takeEnclosed_86 : decode prog_11_method_22_code 86 = .ok (.dup, 1) := by decide +kernel
theorem d_Model_takeEnclosed_87 : decode prog_11_method_22_code 87 = .ok (.getfield 143, 3) := by decide +kernel
theorem d_Model_takeEnclosed_90 : decode prog_11_method_22_code 90 = .ok (.iconst 1, 1) := by decide +kernel
theorem d_Model_takeEnclosed_91 : decode prog_11_method_22_code 91 = .ok (.iadd, 1) := by decide +kernel
theorem d_Model_takeEnclosed_92 : decode prog_11_method_22_code 92 = .ok (.putfield 143, 3) := by decide +kernel
theorem d_Model_takeEnclosed_95 : decode prog_11_method_22_code 95 = .ok (.goto 36, 3) := by decide +kernel
theorem d_Model_takeEnclosed_98 : decode prog_11_method_22_code 98 = .ok (.iload_n 1, 1) := by decide +kernel
theorem d_Model_takeEnclosed_99 : decode prog_11_method_22_code 99 = .ok (.ifCond .ne 13, 3) := by decide +kernel
theorem d_Model_takeEnclosed_102 : decode prog_11_method_22_code 102 = .ok (.iload 4, 2) := by decide +kernel
theorem d_Model_takeEnclosed_104 : decode prog_11_method_22_code 104 = .ok (.bipush 40, 2) := by decide +kernel
theorem d_Model_takeEnclosed_106 : decode prog_11_method_22_code 106 = .ok (.if_icmp .ne 6, 3) := by decide +kernel
theorem d_Model_takeEnclosed_109 : decode prog_11_method_22_code 109 = .ok (.iinc 3 1, 3) := by decide +kernel
theorem d_Model_takeEnclosed_112 : decode prog_11_method_22_code 112 = .ok (.iload 4, 2) := by decide +kernel
theorem d_Model_takeEnclosed_114 : decode prog_11_method_22_code 114 = .ok (.iload_n 2, 1) := by decide +kernel
theorem d_Model_takeEnclosed_115 : decode prog_11_method_22_code 115 = .ok (.if_icmp .ne 6, 3) := by decide +kernel
theorem d_Model_takeEnclosed_118 : decode prog_11_method_22_code 118 = .ok (.iinc 3 (-1), 3) := by decide +kernel
theorem d_Model_takeEnclosed_121 : decode prog_11_method_22_code 121 = .ok (.iload_n 3, 1) := by decide +kernel
theorem d_Model_takeEnclosed_122 : decode prog_11_method_22_code 122 = .ok (.ifCond .le 9, 3) := by decide +kernel
theorem d_Model_takeEnclosed_125 : decode prog_11_method_22_code 125 = .ok (.aload_n 0, 1) := by decide +kernel
theorem d_Model_takeEnclosed_126 : decode prog_11_method_22_code 126 = .ok (.iload 4, 2) := by decide +kernel
theorem d_Model_takeEnclosed_128 : decode prog_11_method_22_code 128 = .ok (.invokevirtual 158, 3) := by decide +kernel
theorem d_Model_takeEnclosed_131 : decode prog_11_method_22_code 131 = .ok (.goto (-113), 3) := by decide +kernel
theorem d_Model_takeEnclosed_134 : decode prog_11_method_22_code 134 = .ok (.aload_n 0, 1) := by decide +kernel
theorem d_Model_takeEnclosed_135 : decode prog_11_method_22_code 135 = .ok (.invokevirtual 162, 3) := by decide +kernel
theorem d_Model_takeEnclosed_138 : decode prog_11_method_22_code 138 = .ok (.return_, 1) := by decide +kernel
theorem d_Model_isSign_0 : decode prog_11_method_23_code 0 = .ok (.iload_n 1, 1) := by decide +kernel
theorem d_Model_isSign_1 : decode prog_11_method_23_code 1 = .ok (.bipush 60, 2) := by decide +kernel
theorem d_Model_isSign_3 : decode prog_11_method_23_code 3 = .ok (.if_icmp .eq 51, 3) := by decide +kernel
theorem d_Model_isSign_6 : decode prog_11_method_23_code 6 = .ok (.iload_n 1, 1) := by decide +kernel
theorem d_Model_isSign_7 : decode prog_11_method_23_code 7 = .ok (.bipush 62, 2) := by decide +kernel
theorem d_Model_isSign_9 : decode prog_11_method_23_code 9 = .ok (.if_icmp .eq 45, 3) := by decide +kernel
theorem d_Model_isSign_12 : decode prog_11_method_23_code 12 = .ok (.iload_n 1, 1) := by decide +kernel
theorem d_Model_isSign_13 : decode prog_11_method_23_code 13 = .ok (.bipush 58, 2) := by decide +kernel
theorem d_Model_isSign_15 : decode prog_11_method_23_code 15 = .ok (.if_icmp .eq 39, 3) := by decide +kernel
theorem d_Model_isSign_18 : decode prog_11_method_23_code 18 = .ok (.iload_n 1, 1) := by decide +kernel
theorem d_Model_isSign_19 : decode prog_11_method_23_code 19 = .ok (.bipush 59, 2) := by decide +kernel
theorem d_Model_isSign_21 : decode prog_11_method_23_code 21 = .ok (.if_icmp .eq 33, 3) := by decide +kernel
theorem d_Model_isSign_24 : decode prog_11_method_23_code 24 = .ok (.iload_n 1, 1) := by decide +kernel
theorem d_Model_isSign_25 : decode prog_11_method_23_code 25 = .ok (.bipush 64, 2) := by decide +kernel
theorem d_Model_isSign_27 : decode prog_11_method_23_code 27 = .ok (.if_icmp .eq 27, 3) := by decide +kernel
theorem d_Model_isSign_30 : decode prog_11_method_23_code 30 = .ok (.iload_n 1, 1) := by decide +kernel
theorem d_Model_isSign_31 : decode prog_11_method_23_code 31 = .ok (.bipush 44, 2) := by decide +kernel
theorem d_Model_isSign_33 : decode prog_11_method_23_code 33 = .ok (.if_icmp .eq 21, 3) := by decide +kernel
theorem d_Model_isSign_36 : decode prog_11_method_23_code 36 = .ok (.iload_n 1, 1) := by decide +kernel
theorem d_Model_isSign_37 : decode prog_11_method_23_code 37 = .ok (.bipush 41, 2) := by decide +kernel
theorem d_Model_isSign_39 : decode prog_11_method_23_code 39 = .ok (.if_icmp .eq 15, 3) := by decide +kernel
theorem d_Model_isSign_42 : decode prog_11_method_23_code 42 = .ok (.iload_n 1, 1) := by decide +kernel
theorem d_Model_isSign_43 : decode prog_11_method_23_code 43 = .ok (.bipush 93, 2) := by decide +kernel
theorem d_Model_isSign_45 : decode prog_11_method_23_code 45 = .ok (.if_icmp .eq 9, 3) := by decide +kernel
theorem d_Model_isSign_48 : decode prog_11_method_23_code 48 = .ok (.iload_n 1, 1) := by decide +kernel
theorem d_Model_isSign_49 : decode prog_11_method_23_code 49 = .ok (.bipush 92, 2) := by decide +kernel
theorem d_Model_isSign_51 : decode prog_11_method_23_code 51 = .ok (.if_icmp .ne 5, 3) := by decide +kernel
theorem d_Model_isSign_54 : decode prog_11_method_23_code 54 = .ok (.iconst 1, 1) := by decide +kernel
theorem d_Model_isSign_55 : decode prog_11_method_23_code 55 = .ok (.ireturn, 1) := by decide +kernel
theorem d_Model_isSign_56 : decode prog_11_method_23_code 56 = .ok (.aload_n 0, 1) := by decide +kernel
theorem d_Model_isSign_57 : decode prog_11_method_23_code 57 = .ok (.getfield 165, 3) := by decide +kernel
theorem d_Model_isSign_60 : decode prog_11_method_23_code 60 = .ok (.ifCond .eq 23, 3) := by decide +kernel
theorem d_Model_isSign_63 : decode prog_11_method_23_code 63 = .ok (.iload_n 1, 1) := by decide +kernel
theorem d_Model_isSign_64 : decode prog_11_method_23_code 64 = .ok (.bipush 61, 2) := by decide +kernel
theorem d_Model_isSign_66 : decode prog_11_method_23_code 66 = .ok (.if_icmp .eq 9, 3) := by decide +kernel
theorem d_Model_isSign_69 : decode prog_11_method_23_code 69 = .ok (.iload_n 1, 1) := by decide +kernel
theorem d_Model_isSign_70 : decode prog_11_method_23_code 70 = .ok (.bipush 47, 2) := by decide +kernel
theorem d_Model_isSign_72 : decode prog_11_method_23_code 72 = .ok (.if_icmp .ne 7, 3) := by decide +kernel
theorem d_Model_isSign_75 : decode prog_11_method_23_code 75 = .ok (.iconst 1, 1) := by decide +kernel
theorem d_Model_isSign_76 : decode prog_11_method_23_code 76 = .ok (.goto 18, 3) := by decide +kernel
theorem d_Model_isSign_79 : decode prog_11_method_23_code 79 = .ok (.iconst 0, 1) := by decide +kernel
theorem d_Model_isSign_80 : decode prog_11_method_23_code 80 = .ok (.goto 14, 3) := by decide +kernel
theorem d_Model_isSign_83 : decode prog_11_method_23_code 83 = .ok (.iload_n 1, 1) := by decide +kernel
theorem d_Model_isSign_84 : decode prog_11_method_23_code 84 = .ok (.bipush 46, 2) := by decide +kernel
theorem d_Model_isSign_86 : decode prog_11_method_23_code 86 = .ok (.if_icmp .ne 7, 3) := by decide +kernel
theorem d_Model_isSign_89 : decode prog_11_method_23_code 89 = .ok (.iconst 1, 1) := by decide +kernel
theorem d_Model_isSign_90 : decode prog_11_method_23_code 90 = .ok (.goto 4, 3) := by decide +kernel
theorem d_Model_isSign_93 : decode prog_11_method_23_code 93 = .ok (.iconst 0, 1) := by decide +kernel
theorem d_Model_isSign_94 : decode prog_11_method_23_code 94 = .ok (.ireturn, 1) := by decide +kernel
theorem d_Model_look_0 : decode prog_11_method_18_code 0 = .ok (.aload_n 0, 1) := by decide +kernel
theorem d_Model_look_1 : decode prog_11_method_18_code 1 = .ok (.getfield 143, 3) := by decide +kernel
theorem d_Model_look_4 : decode prog_11_method_18_code 4 = .ok (.aload_n 0, 1) := by decide +kernel
theorem d_Model_look_5 : decode prog_11_method_18_code 5 = .ok (.getfield 146, 3) := by decide +kernel
theorem d_Model_look_8 : decode prog_11_method_18_code 8 = .ok (.if_icmp .ge 15, 3) := by decide +kernel
theorem d_Model_look_11 : decode prog_11_method_18_code 11 = .ok (.aload_n 0, 1) := by decide +kernel
theorem d_Model_look_12 : decode prog_11_method_18_code 12 = .ok (.getfield 28, 3) := by decide +kernel
theorem d_Model_look_15 : decode prog_11_method_18_code 15 = .ok (.aload_n 0, 1) := by decide +kernel
theorem d_Model_look_16 : decode prog_11_method_18_code 16 = .ok (.getfield 143, 3) := by decide +kernel
theorem d_Model_look_19 : decode prog_11_method_18_code 19 = .ok (.iaload, 1) := by decide +kernel
theorem d_Model_look_20 : decode prog_11_method_18_code 20 = .ok (.goto 4, 3) := by decide +kernel
theorem d_Model_look_23 : decode prog_11_method_18_code 23 = .ok (.iconst (-1), 1) := by decide +kernel
theorem d_Model_look_24 : decode prog_11_method_18_code 24 = .ok (.ireturn, 1) := by decide +kernel
theorem d_Model_isNothing_0 : decode prog_11_method_24_code 0 = .ok (.iload_n 0, 1) := by decide +kernel
theorem d_Model_isNothing_1 : decode prog_11_method_24_code 1 = .ok (.bipush 32, 2) := by decide +kernel
theorem d_Model_isNothing_3 : decode prog_11_method_24_code 3 = .ok (.if_icmp .le 9, 3) := by decide +kernel
theorem d_Model_isNothing_6 : decode prog_11_method_24_code 6 = .ok (.iload_n 0, 1) := by decide +kernel
theorem d_Model_isNothing_7 : decode prog_11_method_24_code 7 = .ok (.bipush 127, 2) := by decide +kernel
theorem d_Model_isNothing_9 : decode prog_11_method_24_code 9 = .ok (.if_icmp .ne 7, 3) := by decide +kernel
theorem d_Model_isNothing_12 : decode prog_11_method_24_code 12 = .ok (.iconst 1, 1) := by decide +kernel
theorem d_Model_isNothing_13 : decode prog_11_method_24_code 13 = .ok (.goto 4, 3) := by decide +kernel
theorem d_Model_isNothing_16 : decode prog_11_method_24_code 16 = .ok (.iconst 0, 1) := by decide +kernel
theorem d_Model_isNothing_17 : decode prog_11_method_24_code 17 = .ok (.ireturn, 1) := by decide +kernel
theorem d_Model_takeAtom_0 : decode prog_11_method_26_code 0 = .ok (.aload_n 0, 1) := by decide +kernel
theorem d_Model_takeAtom_1 : decode prog_11_method_26_code 1 = .ok (.iconst 4, 1) := by decide +kernel
theorem d_Model_takeAtom_2 : decode prog_11_method_26_code 2 = .ok (.iconst 0, 1) := by decide +kernel
theorem d_Model_takeAtom_3 : decode prog_11_method_26_code 3 = .ok (.invokevirtual 155, 3) := by decide +kernel
theorem d_Model_takeAtom_6 : decode prog_11_method_26_code 6 = .ok (.aload_n 0, 1) := by decide +kernel
theorem d_Model_takeAtom_7 : decode prog_11_method_26_code 7 = .ok (.invokevirtual 181, 3) := by decide +kernel
theorem d_Model_takeAtom_10 : decode prog_11_method_26_code 10 = .ok (.istore_n 1, 1) := by decide +kernel
theorem d_Model_takeAtom_11 : decode prog_11_method_26_code 11 = .ok (.iload_n 1, 1) := by decide +kernel
theorem d_Model_takeAtom_12 : decode prog_11_method_26_code 12 = .ok (.iconst (-1), 1) := by decide +kernel
theorem d_Model_takeAtom_13 : decode prog_11_method_26_code 13 = .ok (.if_icmp .eq 59, 3) := by decide +kernel
theorem d_Model_takeAtom_16 : decode prog_11_method_26_code 16 = .ok (.iload_n 1, 1) := by decide +kernel
theorem d_Model_takeAtom_17 : decode prog_11_method_26_code 17 = .ok (.invokestatic 169, 3) := by decide +kernel
theorem d_Model_takeAtom_20 : decode prog_11_method_26_code 20 = .ok (.ifCond .ne 52, 3) := by decide +kernel
theorem d_Model_takeAtom_23 : decode prog_11_method_26_code 23 = .ok (.iload_n 1, 1) := by decide +kernel
theorem d_Model_takeAtom_24 : decode prog_11_method_26_code 24 = .ok (.bipush 40, 2) := by decide +kernel
theorem d_Model_takeAtom_26 : decode prog_11_method_26_code 26 = .ok (.if_icmp .eq 46, 3) := by decide +kernel
theorem d_Model_takeAtom_29 : decode prog_11_method_26_code 29 = .ok (.iload_n 1, 1) := by decide +kernel
theorem d_Model_takeAtom_30 : decode prog_11_method_26_code 30 = .ok (.bipush 34, 2) := by decide +kernel
theorem d_Model_takeAtom_32 : decode prog_11_method_26_code 32 = .ok (.if_icmp .eq 40, 3) := by decide +kernel
theorem d_Model_takeAtom_35 : decode prog_11_method_26_code 35 = .ok (.iload_n 1, 1) := by decide +kernel
theorem d_Model_takeAtom_36 : decode prog_11_method_26_code 36 = .ok (.bipush 91, 2) := by decide +kernel
theorem d_Model_takeAtom_38 : decode prog_11_method_26_code 38 = .ok (.if_icmp .eq 34, 3) := by decide +kernel
theorem d_Model_takeAtom_41 : decode prog_11_method_26_code 41 = .ok (.aload_n 0, 1) := by decide +kernel
theorem d_Model_takeAtom_42 : decode prog_11_method_26_code 42 = .ok (.iload_n 1, 1) := by decide +kernel
theorem d_Model_takeAtom_43 : decode prog_11_method_26_code 43 = .ok (.invokevirtual 175, 3) := by decide +kernel
theorem d_Model_takeAtom_46 : decode prog_11_method_26_code 46 = .ok (.ifCond .ne 26, 3) := by decide +kernel
theorem d_Model_takeAtom_49 : decode prog_11_method_26_code 49 = .ok (.aload_n 0, 1) := by decide +kernel
theorem d_Model_takeAtom_50 : decode prog_11_method_26_code 50 = .ok (.iload_n 1, 1) := by decide +kernel
theorem d_Model_takeAtom_51 : decode prog_11_method_26_code 51 = .ok (.invokevirtual 158, 3) := by decide +kernel
theorem d_Model_takeAtom_54 : decode prog_11_method_26_code 54 = .ok (.aload_n 0, 1) := by decide +kernel
theorem d_Model_takeAtom_55 : decode prog_11_method_26_code 55 = .ok (.dup, 1) := by decide +kernel
theorem d_Model_takeAtom_56 : decode prog_11_method_26_code 56 = .ok (.getfield 143, 3) := by decide +kernel
theorem d_Model_takeAtom_59 : decode prog_11_method_26_code 59 = .ok (.iconst 1, 1) := by decide +kernel
theorem d_Model_takeAtom_60 : decode prog_11_method_26_code 60 = .ok (.iadd, 1) := by decide +kernel
theorem d_Model_takeAtom_61 : decode prog_11_method_26_code 61 = .ok (.putfield 143, 3) := by decide +kernel
theorem d_Model_takeAtom_64 : decode prog_11_method_26_code 64 = .ok (.aload_n 0, 1) := by decide +kernel
theorem d_Model_takeAtom_65 : decode prog_11_method_26_code 65 = .ok (.invokevirtual 181, 3) := by decide +kernel
theorem d_Model_takeAtom_68 : decode prog_11_method_26_code 68 = .ok (.istore_n 1, 1) := by decide +kernel
theorem d_Model_takeAtom_69 : decode prog_11_method_26_code 69 = .ok (.goto (-58), 3) := by decide +kernel
theorem d_Model_takeAtom_72 : decode prog_11_method_26_code 72 = .ok (.aload_n 0, 1) := by decide +kernel
theorem d_Model_takeAtom_73 : decode prog_11_method_26_code 73 = .ok (.invokevirtual 162, 3) := by decide +kernel
theorem d_Model_takeAtom_76 : decode prog_11_method_26_code 76 = .ok (.return_, 1) := by decide +kernel
theorem d_Model_cut_0 : decode prog_11_method_25_code 0 = .ok (.aload_n 0, 1) := by decide +kernel
theorem d_Model_cut_1 : decode prog_11_method_25_code 1 = .ok (.iconst 0, 1) := by decide +kernel
theorem d_Model_cut_2 : decode prog_11_method_25_code 2 = .ok (.putfield 149, 3) := by decide +kernel
theorem d_Model_cut_5 : decode prog_11_method_25_code 5 = .ok (.aload_n 0, 1) := by decide +kernel
theorem d_Model_cut_6 : decode prog_11_method_25_code 6 = .ok (.iconst 0, 1) := by decide +kernel
theorem d_Model_cut_7 : decode prog_11_method_25_code 7 = .ok (.putfield 152, 3) := by decide +kernel
theorem d_Model_cut_10 : decode prog_11_method_25_code 10 = .ok (.aload_n 0, 1) := by decide +kernel
theorem d_Model_cut_11 : decode prog_11_method_25_code 11 = .ok (.iload_n 2, 1) := by decide +kernel
theorem d_Model_cut_12 : decode prog_11_method_25_code 12 = .ok (.putfield 165, 3) := by decide +kernel
theorem d_Model_cut_15 : decode prog_11_method_25_code 15 = .ok (.aload_n 0, 1) := by decide +kernel
theorem d_Model_cut_16 : decode prog_11_method_25_code 16 = .ok (.aload_n 0, 1) := by decide +kernel
theorem d_Model_cut_17 : decode prog_11_method_25_code 17 = .ok (.getfield 22, 3) := by decide +kernel
theorem d_Model_cut_20 : decode prog_11_method_25_code 20 = .ok (.iload_n 1, 1) := by decide +kernel
theorem d_Model_cut_21 : decode prog_11_method_25_code 21 = .ok (.iaload, 1) := by decide +kernel
theorem d_Model_cut_22 : decode prog_11_method_25_code 22 = .ok (.putfield 143, 3) := by decide +kernel
theorem d_Model_cut_25 : decode prog_11_method_25_code 25 = .ok (.aload_n 0, 1) := by decide +kernel
theorem d_Model_cut_26 : decode prog_11_method_25_code 26 = .ok (.aload_n 0, 1) := by decide +kernel
theorem d_Model_cut_27 : decode prog_11_method_25_code 27 = .ok (.getfield 143, 3) := by decide +kernel
theorem d_Model_cut_30 : decode prog_11_method_25_code 30 = .ok (.aload_n 0, 1) := by decide +kernel
theorem d_Model_cut_31 : decode prog_11_method_25_code 31 = .ok (.getfield 25, 3) := by decide +kernel
theorem d_Model_cut_34 : decode prog_11_method_25_code 34 = .ok (.iload_n 1, 1) := by decide +kernel
theorem d_Model_cut_35 : decode prog_11_method_25_code 35 = .ok (.iaload, 1) := by decide +kernel
theorem d_Model_cut_36 : decode prog_11_method_25_code 36 = .ok (.iadd, 1) := by decide +kernel
theorem d_Model_cut_37 : decode prog_11_method_25_code 37 = .ok (.putfield 146, 3) := by decide +kernel
theorem d_Model_cut_40 : decode prog_11_method_25_code 40 = .ok (.aload_n 0, 1) := by decide +kernel
theorem d_Model_cut_41 : decode prog_11_method_25_code 41 = .ok (.getfield 143, 3) := by decide +kernel
theorem d_Model_cut_44 : decode prog_11_method_25_code 44 = .ok (.aload_n 0, 1) := by decide +kernel
theorem d_Model_cut_45 : decode prog_11_method_25_code 45 = .ok (.getfield 146, 3) := by decide +kernel
theorem d_Model_cut_48 : decode prog_11_method_25_code 48 = .ok (.if_icmp .ge 124, 3) := by decide +kernel
theorem d_Model_cut_51 : decode prog_11_method_25_code 51 = .ok (.aload_n 0, 1) := by decide +kernel
theorem d_Model_cut_52 : decode prog_11_method_25_code 52 = .ok (.getfield 28, 3) := by decide +kernel
theorem d_Model_cut_55 : decode prog_11_method_25_code 55 = .ok (.aload_n 0, 1) := by decide +kernel
theorem d_Model_cut_56 : decode prog_11_method_25_code 56 = .ok (.getfield 143, 3) := by decide +kernel
theorem d_Model_cut_59 : decode prog_11_method_25_code 59 = .ok (.iaload, 1) := by decide +kernel
theorem d_Model_cut_60 : decode prog_11_method_25_code 60 = .ok (.istore_n 3, 1) := by decide +kernel
theorem d_Model_cut_61 : decode prog_11_method_25_code 61 = .ok (.iload_n 3, 1) := by decide +kernel
theorem d_Model_cut_62 : decode prog_11_method_25_code 62 = .ok (.invokestatic 169, 3) := by decide +kernel
theorem d_Model_cut_65 : decode prog_11_method_25_code 65 = .ok (.ifCond .eq 16, 3) := by decide +kernel
theorem d_Model_cut_68 : decode prog_11_method_25_code 68 = .ok (.aload_n 0, 1) := by decide +kernel
theorem d_Model_cut_69 : decode prog_11_method_25_code 69 = .ok (.dup, 1) := by decide +kernel
theorem d_Model_cut_70 : decode prog_11_method_25_code 70 = .ok (.getfield 143, 3) := by decide +kernel
theorem d_Model_cut_73 : decode prog_11_method_25_code 73 = .ok (.iconst 1, 1) := by decide +kernel
theorem d_Model_cut_74 : decode prog_11_method_25_code 74 = .ok (.iadd, 1) := by decide +kernel
theorem d_Model_cut_75 : decode prog_11_method_25_code 75 = .ok (.putfield 143, 3) := by decide +kernel
theorem d_Model_cut_78 : decode prog_11_method_25_code 78 = .ok (.goto 91, 3) := by decide +kernel
theorem d_Model_cut_81 : decode prog_11_method_25_code 81 = .ok (.iload_n 3, 1) := by decide +kernel
theorem d_Model_cut_82 : decode prog_11_method_25_code 82 = .ok (.bipush 40, 2) := by decide +kernel
theorem d_Model_cut_84 : decode prog_11_method_25_code 84 = .ok (.if_icmp .ne 13, 3) := by decide +kernel
theorem d_Model_cut_87 : decode prog_11_method_25_code 87 = .ok (.aload_n 0, 1) := by decide +kernel
theorem d_Model_cut_88 : decode prog_11_method_25_code 88 = .ok (.iconst 0, 1) := by decide +kernel
theorem d_Model_cut_89 : decode prog_11_method_25_code 89 = .ok (.bipush 41, 2) := by decide +kernel
theorem d_Model_cut_91 : decode prog_11_method_25_code 91 = .ok (.invokevirtual 172, 3) := by decide +kernel
theorem d_Model_cut_94 : decode prog_11_method_25_code 94 = .ok (.goto 75, 3) := by decide +kernel
theorem d_Model_cut_97 : decode prog_11_method_25_code 97 = .ok (.iload_n 3, 1) := by decide +kernel
theorem d_Model_cut_98 : decode prog_11_method_25_code 98 = .ok (.bipush 34, 2) := by decide +kernel
theorem d_Model_cut_100 : decode prog_11_method_25_code 100 = .ok (.if_icmp .ne 13, 3) := by decide +kernel
theorem d_Model_cut_103 : decode prog_11_method_25_code 103 = .ok (.aload_n 0, 1) := by decide +kernel
theorem d_Model_cut_104 : decode prog_11_method_25_code 104 = .ok (.iconst 1, 1) := by decide +kernel
theorem d_Model_cut_105 : decode prog_11_method_25_code 105 = .ok (.bipush 34, 2) := by decide +kernel
theorem d_Model_cut_107 : decode prog_11_method_25_code 107 = .ok (.invokevirtual 172, 3) := by decide +kernel
theorem d_Model_cut_110 : decode prog_11_method_25_code 110 = .ok (.goto 59, 3) := by decide +kernel
theorem d_Model_cut_113 : decode prog_11_method_25_code 113 = .ok (.iload_n 3, 1) := by decide +kernel
theorem d_Model_cut_114 : decode prog_11_method_25_code 114 = .ok (.bipush 91, 2) := by decide +kernel
theorem d_Model_cut_116 : decode prog_11_method_25_code 116 = .ok (.if_icmp .ne 13, 3) := by decide +kernel
theorem d_Model_cut_119 : decode prog_11_method_25_code 119 = .ok (.aload_n 0, 1) := by decide +kernel
theorem d_Model_cut_120 : decode prog_11_method_25_code 120 = .ok (.iconst 2, 1) := by decide +kernel
theorem d_Model_cut_121 : decode prog_11_method_25_code 121 = .ok (.bipush 93, 2) := by decide +kernel
theorem d_Model_cut_123 : decode prog_11_method_25_code 123 = .ok (.invokevirtual 172, 3) := by decide +kernel
theorem d_Model_cut_126 : decode prog_11_method_25_code 126 = .ok (.goto 43, 3) := by decide +kernel
theorem d_Model_cut_129 : decode prog_11_method_25_code 129 = .ok (.aload_n 0, 1) := by decide +kernel
theorem d_Model_cut_130 : decode prog_11_method_25_code 130 = .ok (.iload_n 3, 1) := by decide +kernel
theorem d_Model_cut_131 : decode prog_11_method_25_code 131 = .ok (.invokevirtual 175, 3) := by decide +kernel
theorem d_Model_cut_134 : decode prog_11_method_25_code 134 = .ok (.ifCond .eq 31, 3) := by decide +kernel
theorem d_Model_cut_137 : decode prog_11_method_25_code 137 = .ok (.aload_n 0, 1) := by decide +kernel
theorem d_Model_cut_138 : decode prog_11_method_25_code 138 = .ok (.iconst 3, 1) := by decide +kernel
theorem d_Model_cut_139 : decode prog_11_method_25_code 139 = .ok (.iload_n 3, 1) := by decide +kernel
theorem d_Model_cut_140 : decode prog_11_method_25_code 140 = .ok (.invokevirtual 155, 3) := by decide +kernel
theorem d_Model_cut_143 : decode prog_11_method_25_code 143 = .ok (.aload_n 0, 1) := by decide +kernel
theorem d_Model_cut_144 : decode prog_11_method_25_code 144 = .ok (.iload_n 3, 1) := by decide +kernel
theorem d_Model_cut_145 : decode prog_11_method_25_code 145 = .ok (.invokevirtual 158, 3) := by decide +kernel
theorem d_Model_cut_148 : decode prog_11_method_25_code 148 = .ok (.aload_n 0, 1) := by decide +kernel
theorem d_Model_cut_149 : decode prog_11_method_25_code 149 = .ok (.dup, 1) := by decide +kernel
theorem d_Model_cut_150 : decode prog_11_method_25_code 150 = .ok (.getfield 143, 3) := by decide +kernel
theorem d_Model_cut_153 : decode prog_11_method_25_code 153 = .ok (.iconst 1, 1) := by decide +kernel
theorem d_Model_cut_154 : decode prog_11_method_25_code 154 = .ok (.iadd, 1) := by decide +kernel
theorem d_Model_cut_155 : decode prog_11_method_25_code 155 = .ok (.putfield 143, 3) := by decide +kernel
theorem d_Model_cut_158 : decode prog_11_method_25_code 158 = .ok (.aload_n 0, 1) := by decide +kernel
theorem d_Model_cut_159 : decode prog_11_method_25_code 159 = .ok (.invokevirtual 162, 3) := by decide +kernel
theorem d_Model_cut_162 : decode prog_11_method_25_code 162 = .ok (.goto 7, 3) := by decide +kernel
theorem d_Model_cut_165 : decode prog_11_method_25_code 165 = .ok (.aload_n 0, 1) := by decide +kernel
theorem d_Model_cut_166 : decode prog_11_method_25_code 166 = .ok (.invokevirtual 178, 3) := by decide +kernel
theorem d_Model_cut_169 : decode prog_11_method_25_code 169 = .ok (.goto (-129), 3) := by decide +kernel
theorem d_Model_cut_172 : decode prog_11_method_25_code 172 = .ok (.return_, 1) := by decide +kernel
theorem d_Model_forget_0 : decode prog_11_method_29_code 0 = .ok (.iload_n 1, 1) := by decide +kernel
theorem d_Model_forget_1 : decode prog_11_method_29_code 1 = .ok (.istore 4, 2) := by decide +kernel
theorem d_Model_forget_3 : decode prog_11_method_29_code 3 = .ok (.iload 4, 2) := by decide +kernel
theorem d_Model_forget_5 : decode prog_11_method_29_code 5 = .ok (.iload_n 2, 1) := by decide +kernel
theorem d_Model_forget_6 : decode prog_11_method_29_code 6 = .ok (.if_icmp .gt 17, 3) := by decide +kernel
theorem d_Model_forget_9 : decode prog_11_method_29_code 9 = .ok (.aload_n 0, 1) := by decide +kernel
theorem d_Model_forget_10 : decode prog_11_method_29_code 10 = .ok (.getfield 52, 3) := by decide +kernel
theorem d_Model_forget_13 : decode prog_11_method_29_code 13 = .ok (.iload 4, 2) := by decide +kernel
theorem d_Model_forget_15 : decode prog_11_method_29_code 15 = .ok (.iconst 0, 1) := by decide +kernel
theorem d_Model_forget_16 : decode prog_11_method_29_code 16 = .ok (.iastore, 1) := by decide +kernel
theorem d_Model_forget_17 : decode prog_11_method_29_code 17 = .ok (.iinc 4 1, 3) := by decide +kernel
theorem d_Model_forget_20 : decode prog_11_method_29_code 20 = .ok (.goto (-17), 3) := by decide +kernel
theorem d_Model_forget_23 : decode prog_11_method_29_code 23 = .ok (.aload_n 0, 1) := by decide +kernel
theorem d_Model_forget_24 : decode prog_11_method_29_code 24 = .ok (.getfield 49, 3) := by decide +kernel
theorem d_Model_forget_27 : decode prog_11_method_29_code 27 = .ok (.iload_n 3, 1) := by decide +kernel
theorem d_Model_forget_28 : decode prog_11_method_29_code 28 = .ok (.iconst 0, 1) := by decide +kernel
theorem d_Model_forget_29 : decode prog_11_method_29_code 29 = .ok (.iastore, 1) := by decide +kernel
theorem d_Model_forget_30 : decode prog_11_method_29_code 30 = .ok (.return_, 1) := by decide +kernel
theorem d_Model_addresses_0 : decode prog_11_method_48_code 0 = .ok (.aload_n 0, 1) := by decide +kernel
theorem d_Model_addresses_1 : decode prog_11_method_48_code 1 = .ok (.aload_n 0, 1) := by decide +kernel
theorem d_Model_addresses_2 : decode prog_11_method_48_code 2 = .ok (.iload_n 1, 1) := by decide +kernel
theorem d_Model_addresses_3 : decode prog_11_method_48_code 3 = .ok (.invokevirtual 137, 3) := by decide +kernel
theorem d_Model_addresses_6 : decode prog_11_method_48_code 6 = .ok (.ifCond .eq 7, 3) := by decide +kernel
theorem d_Model_addresses_9 : decode prog_11_method_48_code 9 = .ok (.iconst 0, 1) := by decide +kernel
theorem d_Model_addresses_10 : decode prog_11_method_48_code 10 = .ok (.goto 4, 3) := by decide +kernel
theorem d_Model_addresses_13 : decode prog_11_method_48_code 13 = .ok (.iconst 1, 1) := by decide +kernel
theorem d_Model_addresses_14 : decode prog_11_method_48_code 14 = .ok (.putfield 99, 3) := by decide +kernel
theorem d_Model_addresses_17 : decode prog_11_method_48_code 17 = .ok (.aload_n 0, 1) := by decide +kernel
theorem d_Model_addresses_18 : decode prog_11_method_48_code 18 = .ok (.getfield 99, 3) := by decide +kernel
theorem d_Model_addresses_21 : decode prog_11_method_48_code 21 = .ok (.ifCond .eq 5, 3) := by decide +kernel
theorem d_Model_addresses_24 : decode prog_11_method_48_code 24 = .ok (.iconst 0, 1) := by decide +kernel
theorem d_Model_addresses_25 : decode prog_11_method_48_code 25 = .ok (.ireturn, 1) := by decide +kernel
theorem d_Model_addresses_26 : decode prog_11_method_48_code 26 = .ok (.aload_n 0, 1) := by decide +kernel
theorem d_Model_addresses_27 : decode prog_11_method_48_code 27 = .ok (.iload_n 1, 1) := by decide +kernel
theorem d_Model_addresses_28 : decode prog_11_method_48_code 28 = .ok (.iconst 0, 1) := by decide +kernel
theorem d_Model_addresses_29 : decode prog_11_method_48_code 29 = .ok (.invokevirtual 251, 3) := by decide +kernel
theorem d_Model_addresses_32 : decode prog_11_method_48_code 32 = .ok (.aload_n 0, 1) := by decide +kernel
theorem d_Model_addresses_33 : decode prog_11_method_48_code 33 = .ok (.iconst 0, 1) := by decide +kernel
theorem d_Model_addresses_34 : decode prog_11_method_48_code 34 = .ok (.iconst 3, 1) := by decide +kernel
theorem d_Model_addresses_35 : decode prog_11_method_48_code 35 = .ok (.iconst 0, 1) := by decide +kernel
theorem d_Model_addresses_36 : decode prog_11_method_48_code 36 = .ok (.invokevirtual 255, 3) := by decide +kernel
theorem d_Model_addresses_39 : decode prog_11_method_48_code 39 = .ok (.aload_n 0, 1) := by decide +kernel
theorem d_Model_addresses_40 : decode prog_11_method_48_code 40 = .ok (.iconst 0, 1) := by decide +kernel
theorem d_Model_addresses_41 : decode prog_11_method_48_code 41 = .ok (.putfield 248, 3) := by decide +kernel
theorem d_Model_addresses_44 : decode prog_11_method_48_code 44 = .ok (.aload_n 0, 1) := by decide +kernel
theorem d_Model_addresses_45 : decode prog_11_method_48_code 45 = .ok (.iconst 0, 1) := by decide +kernel
theorem d_Model_addresses_46 : decode prog_11_method_48_code 46 = .ok (.putfield 227, 3) := by decide +kernel
theorem d_Model_addresses_49 : decode prog_11_method_48_code 49 = .ok (.iconst (-1), 1) := by decide +kernel
theorem d_Model_addresses_50 : decode prog_11_method_48_code 50 = .ok (.istore_n 2, 1) := by decide +kernel
theorem d_Model_addresses_51 : decode prog_11_method_48_code 51 = .ok (.iconst 0, 1) := by decide +kernel
theorem d_Model_addresses_52 : decode prog_11_method_48_code 52 = .ok (.istore_n 3, 1) := by decide +kernel
theorem d_Model_addresses_53 : decode prog_11_method_48_code 53 = .ok (.iconst 0, 1) := by decide +kernel
theorem d_Model_addresses_54 : decode prog_11_method_48_code 54 = .ok (.istore 4, 2) := by decide +kernel
theorem d_Model_addresses_56 : decode prog_11_method_48_code 56 = .ok (.iconst 0, 1) := by decide +kernel
theorem d_Model_addresses_57 : decode prog_11_method_48_code 57 = .ok (.istore 5, 2) := by decide +kernel
theorem d_Model_addresses_59 : decode prog_11_method_48_code 59 = .ok (.iload 5, 2) := by decide +kernel
theorem d_Model_addresses_61 : decode prog_11_method_48_code 61 = .ok (.aload_n 0, 1) := by decide +kernel
theorem d_Model_addresses_62 : decode prog_11_method_48_code 62 = .ok (.getfield 149, 3) := by decide +kernel
theorem d_Model_addresses_65 : decode prog_11_method_48_code 65 = .ok (.if_icmp .gt 226, 3) := by decide +kernel
theorem d_Model_addresses_68 : decode prog_11_method_48_code 68 = .ok (.iload 5, 2) := by decide +kernel
theorem d_Model_addresses_70 : decode prog_11_method_48_code 70 = .ok (.aload_n 0, 1) := by decide +kernel
theorem d_Model_addresses_71 : decode prog_11_method_48_code 71 = .ok (.getfield 149, 3) := by decide +kernel
theorem d_Model_addresses_74 : decode prog_11_method_48_code 74 = .ok (.if_icmp .ne 7, 3) := by decide +kernel
theorem d_Model_addresses_77 : decode prog_11_method_48_code 77 = .ok (.iconst 1, 1) := by decide +kernel
theorem d_Model_addresses_78 : decode prog_11_method_48_code 78 = .ok (.goto 4, 3) := by decide +kernel
theorem d_Model_addresses_81 : decode prog_11_method_48_code 81 = .ok (.iconst 0, 1) := by decide +kernel
theorem d_Model_addresses_82 : decode prog_11_method_48_code 82 = .ok (.istore 6, 2) := by decide +kernel
theorem d_Model_addresses_84 : decode prog_11_method_48_code 84 = .ok (.iload 6, 2) := by decide +kernel
theorem d_Model_addresses_86 : decode prog_11_method_48_code 86 = .ok (.ifCond .ne 25, 3) := by decide +kernel
theorem d_Model_addresses_89 : decode prog_11_method_48_code 89 = .ok (.aload_n 0, 1) := by decide +kernel
theorem d_Model_addresses_90 : decode prog_11_method_48_code 90 = .ok (.iload 5, 2) := by decide +kernel
theorem d_Model_addresses_92 : decode prog_11_method_48_code 92 = .ok (.bipush 60, 2) := by decide +kernel
theorem d_Model_addresses_94 : decode prog_11_method_48_code 94 = .ok (.invokevirtual 200, 3) := by decide +kernel
theorem d_Model_addresses_97 : decode prog_11_method_48_code 97 = .ok (.ifCond .eq 14, 3) := by decide +kernel
theorem d_Model_addresses_100 : decode prog_11_method_48_code 100 = .ok (.iload 4, 2) := by decide +kernel
theorem d_Model_addresses_102 : decode prog_11_method_48_code 102 = .ok (.ifCond .ne 9, 3) := by decide +kernel
theorem d_Model_addresses_105 : decode prog_11_method_48_code 105 = .ok (.iconst 1, 1) := by decide +kernel
theorem d_Model_addresses_106 : decode prog_11_method_48_code 106 = .ok (.istore 4, 2) := by decide +kernel
theorem d_Model_addresses_108 : decode prog_11_method_48_code 108 = .ok (.goto 22, 3) := by decide +kernel
theorem d_Model_addresses_111 : decode prog_11_method_48_code 111 = .ok (.iload 6, 2) := by decide +kernel
theorem d_Model_addresses_113 : decode prog_11_method_48_code 113 = .ok (.ifCond .ne 17, 3) := by decide +kernel
theorem d_Model_addresses_116 : decode prog_11_method_48_code 116 = .ok (.aload_n 0, 1) := by decide +kernel
theorem d_Model_addresses_117 : decode prog_11_method_48_code 117 = .ok (.iload 5, 2) := by decide +kernel
theorem d_Model_addresses_119 : decode prog_11_method_48_code 119 = .ok (.bipush 62, 2) := by decide +kernel
theorem d_Model_addresses_121 : decode prog_11_method_48_code 121 = .ok (.invokevirtual 200, 3) := by decide +kernel
theorem d_Model_addresses_124 : decode prog_11_method_48_code 124 = .ok (.ifCond .eq 6, 3) := by decide +kernel
theorem d_Model_addresses_127 : decode prog_11_method_48_code 127 = .ok (.iconst 0, 1) := by decide +kernel
theorem d_Model_addresses_128 : decode prog_11_method_48_code 128 = .ok (.istore 4, 2) := by decide +kernel
theorem d_Model_addresses_130 : decode prog_11_method_48_code 130 = .ok (.iload 6, 2) := by decide +kernel
theorem d_Model_addresses_132 : decode prog_11_method_48_code 132 = .ok (.ifCond .ne 23, 3) := by decide +kernel
theorem d_Model_addresses_135 : decode prog_11_method_48_code 135 = .ok (.iload 4, 2) := by decide +kernel
theorem d_Model_addresses_137 : decode prog_11_method_48_code 137 = .ok (.ifCond .ne 18, 3) := by decide +kernel
theorem d_Model_addresses_140 : decode prog_11_method_48_code 140 = .ok (.aload_n 0, 1) := by decide +kernel
theorem d_Model_addresses_141 : decode prog_11_method_48_code 141 = .ok (.iload 5, 2) := by decide +kernel
theorem d_Model_addresses_143 : decode prog_11_method_48_code 143 = .ok (.bipush 58, 2) := by decide +kernel
theorem d_Model_addresses_145 : decode prog_11_method_48_code 145 = .ok (.invokevirtual 200, 3) := by decide +kernel
theorem d_Model_addresses_148 : decode prog_11_method_48_code 148 = .ok (.ifCond .eq 7, 3) := by decide +kernel
theorem d_Model_addresses_151 : decode prog_11_method_48_code 151 = .ok (.iconst 1, 1) := by decide +kernel
theorem d_Model_addresses_152 : decode prog_11_method_48_code 152 = .ok (.goto 4, 3) := by decide +kernel
theorem d_Model_addresses_155 : decode prog_11_method_48_code 155 = .ok (.iconst 0, 1) := by decide +kernel
theorem d_Model_addresses_156 : decode prog_11_method_48_code 156 = .ok (.istore 7, 2) := by decide +kernel
theorem d_Model_addresses_158 : decode prog_11_method_48_code 158 = .ok (.iload 6, 2) := by decide +kernel
theorem d_Model_addresses_160 : decode prog_11_method_48_code 160 = .ok (.ifCond .ne 35, 3) := by decide +kernel
theorem d_Model_addresses_163 : decode prog_11_method_48_code 163 = .ok (.iload 4, 2) := by decide +kernel
theorem d_Model_addresses_165 : decode prog_11_method_48_code 165 = .ok (.ifCond .ne 34, 3) := by decide +kernel
theorem d_Model_addresses_168 : decode prog_11_method_48_code 168 = .ok (.iload 7, 2) := by decide +kernel
theorem d_Model_addresses_170 : decode prog_11_method_48_code 170 = .ok (.ifCond .ne 25, 3) := by decide +kernel
theorem d_Model_addresses_173 : decode prog_11_method_48_code 173 = .ok (.aload_n 0, 1) := by decide +kernel
theorem d_Model_addresses_174 : decode prog_11_method_48_code 174 = .ok (.iload 5, 2) := by decide +kernel
theorem d_Model_addresses_176 : decode prog_11_method_48_code 176 = .ok (.bipush 44, 2) := by decide +kernel
theorem d_Model_addresses_178 : decode prog_11_method_48_code 178 = .ok (.invokevirtual 200, 3) := by decide +kernel
theorem d_Model_addresses_181 : decode prog_11_method_48_code 181 = .ok (.ifCond .ne 14, 3) := by decide +kernel
theorem d_Model_addresses_184 : decode prog_11_method_48_code 184 = .ok (.aload_n 0, 1) := by decide +kernel
theorem d_Model_addresses_185 : decode prog_11_method_48_code 185 = .ok (.iload 5, 2) := by decide +kernel
theorem d_Model_addresses_187 : decode prog_11_method_48_code 187 = .ok (.bipush 59, 2) := by decide +kernel
theorem d_Model_addresses_189 : decode prog_11_method_48_code 189 = .ok (.invokevirtual 200, 3) := by decide +kernel
theorem d_Model_addresses_192 : decode prog_11_method_48_code 192 = .ok (.ifCond .eq 7, 3) := by decide +kernel
theorem d_Model_addresses_195 : decode prog_11_method_48_code 195 = .ok (.iconst 1, 1) := by decide +kernel
theorem d_Model_addresses_196 : decode prog_11_method_48_code 196 = .ok (.goto 4, 3) := by decide +kernel
theorem d_Model_addresses_199 : decode prog_11_method_48_code 199 = .ok (.iconst 0, 1) := by decide +kernel
theorem d_Model_addresses_200 : decode prog_11_method_48_code 200 = .ok (.istore 8, 2) := by decide +kernel
theorem d_Model_addresses_202 : decode prog_11_method_48_code 202 = .ok (.iload 8, 2) := by decide +kernel
theorem d_Model_addresses_204 : decode prog_11_method_48_code 204 = .ok (.ifCond .eq 81, 3) := by decide +kernel
theorem d_Model_addresses_207 : decode prog_11_method_48_code 207 = .ok (.iload 7, 2) := by decide +kernel
theorem d_Model_addresses_209 : decode prog_11_method_48_code 209 = .ok (.ifCond .eq 25, 3) := by decide +kernel
theorem d_Model_addresses_212 : decode prog_11_method_48_code 212 = .ok (.iload_n 2, 1) := by decide +kernel
theorem d_Model_addresses_213 : decode prog_11_method_48_code 213 = .ok (.iconst (-1), 1) := by decide +kernel
theorem d_Model_addresses_214 : decode prog_11_method_48_code 214 = .ok (.if_icmp .ne 20, 3) := by decide +kernel
theorem d_Model_addresses_217 : decode prog_11_method_48_code 217 = .ok (.aload_n 0, 1) := by decide +kernel
theorem d_Model_addresses_218 : decode prog_11_method_48_code 218 = .ok (.iload_n 3, 1) := by decide +kernel
theorem d_Model_addresses_219 : decode prog_11_method_48_code 219 = .ok (.iload 5, 2) := by decide +kernel
theorem d_Model_addresses_221 : decode prog_11_method_48_code 221 = .ok (.invokevirtual 258, 3) := by decide +kernel
theorem d_Model_addresses_224 : decode prog_11_method_48_code 224 = .ok (.aload_n 0, 1) := by decide +kernel
theorem d_Model_addresses_225 : decode prog_11_method_48_code 225 = .ok (.getfield 248, 3) := by decide +kernel
theorem d_Model_addresses_228 : decode prog_11_method_48_code 228 = .ok (.iconst 1, 1) := by decide +kernel
theorem d_Model_addresses_229 : decode prog_11_method_48_code 229 = .ok (.isub, 1) := by decide +kernel
theorem d_Model_addresses_230 : decode prog_11_method_48_code 230 = .ok (.istore_n 2, 1) := by decide +kernel
theorem d_Model_addresses_231 : decode prog_11_method_48_code 231 = .ok (.goto 31, 3) := by decide +kernel
theorem d_Model_addresses_234 : decode prog_11_method_48_code 234 = .ok (.iload 7, 2) := by decide +kernel
theorem d_Model_addresses_236 : decode prog_11_method_48_code 236 = .ok (.ifCond .eq 16, 3) := by decide +kernel
theorem d_Model_addresses_239 : decode prog_11_method_48_code 239 = .ok (.aload_n 0, 1) := by decide +kernel
theorem d_Model_addresses_240 : decode prog_11_method_48_code 240 = .ok (.dup, 1) := by decide +kernel
theorem d_Model_addresses_241 : decode prog_11_method_48_code 241 = .ok (.getfield 227, 3) := by decide +kernel
theorem d_Model_addresses_244 : decode prog_11_method_48_code 244 = .ok (.iconst 1, 1) := by decide +kernel
theorem d_Model_addresses_245 : decode prog_11_method_48_code 245 = .ok (.iadd, 1) := by decide +kernel
theorem d_Model_addresses_246 : decode prog_11_method_48_code 246 = .ok (.putfield 227, 3) := by decide +kernel
theorem d_Model_addresses_249 : decode prog_11_method_48_code 249 = .ok (.goto 13, 3) := by decide +kernel
theorem d_Model_addresses_252 : decode prog_11_method_48_code 252 = .ok (.aload_n 0, 1) := by decide +kernel
theorem d_Model_addresses_253 : decode prog_11_method_48_code 253 = .ok (.iload_n 3, 1) := by decide +kernel
theorem d_Model_addresses_254 : decode prog_11_method_48_code 254 = .ok (.iload 5, 2) := by decide +kernel
theorem d_Model_addresses_256 : decode prog_11_method_48_code 256 = .ok (.iload 4, 2) := by decide +kernel
theorem d_Model_addresses_258 : decode prog_11_method_48_code 258 = .ok (.iload_n 2, 1) := by decide +kernel
theorem d_Model_addresses_259 : decode prog_11_method_48_code 259 = .ok (.invokevirtual 261, 3) := by decide +kernel
theorem d_Model_addresses_262 : decode prog_11_method_48_code 262 = .ok (.iload 6, 2) := by decide +kernel
theorem d_Model_addresses_264 : decode prog_11_method_48_code 264 = .ok (.ifCond .ne 16, 3) := by decide +kernel
theorem d_Model_addresses_267 : decode prog_11_method_48_code 267 = .ok (.aload_n 0, 1) := by decide +kernel
theorem d_Model_addresses_268 : decode prog_11_method_48_code 268 = .ok (.iload 5, 2) := by decide +kernel
theorem d_Model_addresses_270 : decode prog_11_method_48_code 270 = .ok (.bipush 59, 2) := by decide +kernel
theorem d_Model_addresses_272 : decode prog_11_method_48_code 272 = .ok (.invokevirtual 200, 3) := by decide +kernel
theorem d_Model_addresses_275 : decode prog_11_method_48_code 275 = .ok (.ifCond .eq 5, 3) := by decide +kernel
theorem d_Model_addresses_278 : decode prog_11_method_48_code 278 = .ok (.iconst (-1), 1) := by decide +kernel
theorem d_Model_addresses_279 : decode prog_11_method_48_code 279 = .ok (.istore_n 2, 1) := by decide +kernel
theorem d_Model_addresses_280 : decode prog_11_method_48_code 280 = .ok (.iload 5, 2) := by decide +kernel
theorem d_Model_addresses_282 : decode prog_11_method_48_code 282 = .ok (.iconst 1, 1) := by decide +kernel
theorem d_Model_addresses_283 : decode prog_11_method_48_code 283 = .ok (.iadd, 1) := by decide +kernel
theorem d_Model_addresses_284 : decode prog_11_method_48_code 284 = .ok (.istore_n 3, 1) := by decide +kernel
theorem d_Model_addresses_285 : decode prog_11_method_48_code 285 = .ok (.iinc 5 1, 3) := by decide +kernel
theorem d_Model_addresses_288 : decode prog_11_method_48_code 288 = .ok (.goto (-229), 3) := by decide +kernel
theorem d_Model_addresses_291 : decode prog_11_method_48_code 291 = .ok (.aload_n 0, 1) := by decide +kernel
theorem d_Model_addresses_292 : decode prog_11_method_48_code 292 = .ok (.getfield 52, 3) := by decide +kernel
theorem d_Model_addresses_295 : decode prog_11_method_48_code 295 = .ok (.iconst 1, 1) := by decide +kernel
theorem d_Model_addresses_296 : decode prog_11_method_48_code 296 = .ok (.iaload, 1) := by decide +kernel
theorem d_Model_addresses_297 : decode prog_11_method_48_code 297 = .ok (.ireturn, 1) := by decide +kernel
theorem d_Model_find_0 : decode prog_11_method_14_code 0 = .ok (.aload_n 0, 1) := by decide +kernel
theorem d_Model_find_1 : decode prog_11_method_14_code 1 = .ok (.iconst 0, 1) := by decide +kernel
theorem d_Model_find_2 : decode prog_11_method_14_code 2 = .ok (.putfield 99, 3) := by decide +kernel
theorem d_Model_find_5 : decode prog_11_method_14_code 5 = .ok (.aload_n 0, 1) := by decide +kernel
theorem d_Model_find_6 : decode prog_11_method_14_code 6 = .ok (.getfield 106, 3) := by decide +kernel
theorem d_Model_find_9 : decode prog_11_method_14_code 9 = .ok (.istore_n 1, 1) := by decide +kernel
theorem d_Model_find_10 : decode prog_11_method_14_code 10 = .ok (.aload_n 0, 1) := by decide +kernel
theorem d_Model_find_11 : decode prog_11_method_14_code 11 = .ok (.iconst 0, 1) := by decide +kernel
theorem d_Model_find_12 : decode prog_11_method_14_code 12 = .ok (.putfield 106, 3) := by decide +kernel
theorem d_Model_find_15 : decode prog_11_method_14_code 15 = .ok (.iconst 0, 1) := by decide +kernel
theorem d_Model_find_16 : decode prog_11_method_14_code 16 = .ok (.istore_n 2, 1) := by decide +kernel
theorem d_Model_find_17 : decode prog_11_method_14_code 17 = .ok (.iload_n 2, 1) := by decide +kernel
theorem d_Model_find_18 : decode prog_11_method_14_code 18 = .ok (.aload_n 0, 1) := by decide +kernel
theorem d_Model_find_19 : decode prog_11_method_14_code 19 = .ok (.getfield 116, 3) := by decide +kernel
theorem d_Model_find_22 : decode prog_11_method_14_code 22 = .ok (.if_icmp .ge 86, 3) := by decide +kernel
theorem d_Model_find_25 : decode prog_11_method_14_code 25 = .ok (.aload_n 0, 1) := by decide +kernel
theorem d_Model_find_26 : decode prog_11_method_14_code 26 = .ok (.getfield 19, 3) := by decide +kernel
theorem d_Model_find_29 : decode prog_11_method_14_code 29 = .ok (.iload_n 2, 1) := by decide +kernel
theorem d_Model_find_30 : decode prog_11_method_14_code 30 = .ok (.iaload, 1) := by decide +kernel
theorem d_Model_find_31 : decode prog_11_method_14_code 31 = .ok (.iload_n 1, 1) := by decide +kernel
theorem d_Model_find_32 : decode prog_11_method_14_code 32 = .ok (.if_icmp .ne 7, 3) := by decide +kernel
theorem d_Model_find_35 : decode prog_11_method_14_code 35 = .ok (.iconst 1, 1) := by decide +kernel
theorem d_Model_find_36 : decode prog_11_method_14_code 36 = .ok (.goto 4, 3) := by decide +kernel
theorem d_Model_find_39 : decode prog_11_method_14_code 39 = .ok (.iconst 0, 1) := by decide +kernel
theorem d_Model_find_40 : decode prog_11_method_14_code 40 = .ok (.istore_n 3, 1) := by decide +kernel
theorem d_Model_find_41 : decode prog_11_method_14_code 41 = .ok (.iconst 0, 1) := by decide +kernel
theorem d_Model_find_42 : decode prog_11_method_14_code 42 = .ok (.istore 4, 2) := by decide +kernel
theorem d_Model_find_44 : decode prog_11_method_14_code 44 = .ok (.iload 4, 2) := by decide +kernel
theorem d_Model_find_46 : decode prog_11_method_14_code 46 = .ok (.iload_n 1, 1) := by decide +kernel
theorem d_Model_find_47 : decode prog_11_method_14_code 47 = .ok (.if_icmp .ge 49, 3) := by decide +kernel
theorem d_Model_find_50 : decode prog_11_method_14_code 50 = .ok (.iload_n 3, 1) := by decide +kernel
theorem d_Model_find_51 : decode prog_11_method_14_code 51 = .ok (.ifCond .eq 45, 3) := by decide +kernel
theorem d_Model_find_54 : decode prog_11_method_14_code 54 = .ok (.aload_n 0, 1) := by decide +kernel
theorem d_Model_find_55 : decode prog_11_method_14_code 55 = .ok (.getfield 28, 3) := by decide +kernel
theorem d_Model_find_58 : decode prog_11_method_14_code 58 = .ok (.aload_n 0, 1) := by decide +kernel
theorem d_Model_find_59 : decode prog_11_method_14_code 59 = .ok (.getfield 16, 3) := by decide +kernel
theorem d_Model_find_62 : decode prog_11_method_14_code 62 = .ok (.iload_n 2, 1) := by decide +kernel
theorem d_Model_find_63 : decode prog_11_method_14_code 63 = .ok (.iaload, 1) := by decide +kernel
theorem d_Model_find_64 : decode prog_11_method_14_code 64 = .ok (.iload 4, 2) := by decide +kernel
theorem d_Model_find_66 : decode prog_11_method_14_code 66 = .ok (.iadd, 1) := by decide +kernel
theorem d_Model_find_67 : decode prog_11_method_14_code 67 = .ok (.iaload, 1) := by decide +kernel
theorem d_Model_find_68 : decode prog_11_method_14_code 68 = .ok (.invokestatic 133, 3) := by decide +kernel
theorem d_Model_find_71 : decode prog_11_method_14_code 71 = .ok (.aload_n 0, 1) := by decide +kernel
theorem d_Model_find_72 : decode prog_11_method_14_code 72 = .ok (.getfield 13, 3) := by decide +kernel
theorem d_Model_find_75 : decode prog_11_method_14_code 75 = .ok (.iload 4, 2) := by decide +kernel
theorem d_Model_find_77 : decode prog_11_method_14_code 77 = .ok (.iaload, 1) := by decide +kernel
theorem d_Model_find_78 : decode prog_11_method_14_code 78 = .ok (.invokestatic 133, 3) := by decide +kernel
theorem d_Model_find_81 : decode prog_11_method_14_code 81 = .ok (.if_icmp .ne 7, 3) := by decide +kernel
theorem d_Model_find_84 : decode prog_11_method_14_code 84 = .ok (.iconst 1, 1) := by decide +kernel
theorem d_Model_find_85 : decode prog_11_method_14_code 85 = .ok (.goto 4, 3) := by decide +kernel
theorem d_Model_find_88 : decode prog_11_method_14_code 88 = .ok (.iconst 0, 1) := by decide +kernel
theorem d_Model_find_89 : decode prog_11_method_14_code 89 = .ok (.istore_n 3, 1) := by decide +kernel
theorem d_Model_find_90 : decode prog_11_method_14_code 90 = .ok (.iinc 4 1, 3) := by decide +kernel
theorem d_Model_find_93 : decode prog_11_method_14_code 93 = .ok (.goto (-49), 3) := by decide +kernel
theorem d_Model_find_96 : decode prog_11_method_14_code 96 = .ok (.iload_n 3, 1) := by decide +kernel
theorem d_Model_find_97 : decode prog_11_method_14_code 97 = .ok (.ifCond .eq 5, 3) := by decide +kernel
theorem d_Model_find_100 : decode prog_11_method_14_code 100 = .ok (.iload_n 2, 1) := by decide +kernel
theorem d_Model_find_101 : decode prog_11_method_14_code 101 = .ok (.ireturn, 1) := by decide +kernel
theorem d_Model_find_102 : decode prog_11_method_14_code 102 = .ok (.iinc 2 1, 3) := by decide +kernel
theorem d_Model_find_105 : decode prog_11_method_14_code 105 = .ok (.goto (-88), 3) := by decide +kernel
theorem d_Model_find_108 : decode prog_11_method_14_code 108 = .ok (.iconst (-1), 1) := by decide +kernel
theorem d_Model_find_109 : decode prog_11_method_14_code 109 = .ok (.ireturn, 1) := by decide +kernel
theorem d_Model_readyWord_0 : decode prog_11_method_3_code 0 = .ok (.iconst 0, 1) := by decide +kernel
theorem d_Model_readyWord_1 : decode prog_11_method_3_code 1 = .ok (.istore_n 3, 1) := by decide +kernel
theorem d_Model_readyWord_2 : decode prog_11_method_3_code 2 = .ok (.iload_n 3, 1) := by decide +kernel
theorem d_Model_readyWord_3 : decode prog_11_method_3_code 3 = .ok (.iconst 4, 1) := by decide +kernel
theorem d_Model_readyWord_4 : decode prog_11_method_3_code 4 = .ok (.if_icmp .ge 30, 3) := by decide +kernel
theorem d_Model_readyWord_7 : decode prog_11_method_3_code 7 = .ok (.aload_n 0, 1) := by decide +kernel
theorem d_Model_readyWord_8 : decode prog_11_method_3_code 8 = .ok (.getfield 7, 3) := by decide +kernel
theorem d_Model_readyWord_11 : decode prog_11_method_3_code 11 = .ok (.iload_n 1, 1) := by decide +kernel
theorem d_Model_readyWord_12 : decode prog_11_method_3_code 12 = .ok (.iload_n 3, 1) := by decide +kernel
theorem d_Model_readyWord_13 : decode prog_11_method_3_code 13 = .ok (.iadd, 1) := by decide +kernel
theorem d_Model_readyWord_14 : decode prog_11_method_3_code 14 = .ok (.iload_n 2, 1) := by decide +kernel
theorem d_Model_readyWord_15 : decode prog_11_method_3_code 15 = .ok (.bipush 24, 2) := by decide +kernel
theorem d_Model_readyWord_17 : decode prog_11_method_3_code 17 = .ok (.bipush 8, 2) := by decide +kernel
theorem d_Model_readyWord_19 : decode prog_11_method_3_code 19 = .ok (.iload_n 3, 1) := by decide +kernel
theorem d_Model_readyWord_20 : decode prog_11_method_3_code 20 = .ok (.imul, 1) := by decide +kernel
theorem d_Model_readyWord_21 : decode prog_11_method_3_code 21 = .ok (.isub, 1) := by decide +kernel
theorem d_Model_readyWord_22 : decode prog_11_method_3_code 22 = .ok (.iushr, 1) := by decide +kernel
theorem d_Model_readyWord_23 : decode prog_11_method_3_code 23 = .ok (.sipush 255, 3) := by decide +kernel
theorem d_Model_readyWord_26 : decode prog_11_method_3_code 26 = .ok (.iand, 1) := by decide +kernel
theorem d_Model_readyWord_27 : decode prog_11_method_3_code 27 = .ok (.iastore, 1) := by decide +kernel
theorem d_Model_readyWord_28 : decode prog_11_method_3_code 28 = .ok (.iinc 3 1, 3) := by decide +kernel
theorem d_Model_readyWord_31 : decode prog_11_method_3_code 31 = .ok (.goto (-29), 3) := by decide +kernel
theorem d_Model_readyWord_34 : decode prog_11_method_3_code 34 = .ok (.return_, 1) := by decide +kernel
theorem d_Model_feed_0 : decode prog_11_method_4_code 0 = .ok (.aload_n 0, 1) := by decide +kernel
theorem d_Model_feed_1 : decode prog_11_method_4_code 1 = .ok (.iconst 0, 1) := by decide +kernel
theorem d_Model_feed_2 : decode prog_11_method_4_code 2 = .ok (.putfield 99, 3) := by decide +kernel
theorem d_Model_feed_5 : decode prog_11_method_4_code 5 = .ok (.aload_n 0, 1) := by decide +kernel
theorem d_Model_feed_6 : decode prog_11_method_4_code 6 = .ok (.iconst 0, 1) := by decide +kernel
theorem d_Model_feed_7 : decode prog_11_method_4_code 7 = .ok (.iload_n 1, 1) := by decide +kernel
theorem d_Model_feed_8 : decode prog_11_method_4_code 8 = .ok (.invokevirtual 102, 3) := by decide +kernel
theorem d_Model_feed_11 : decode prog_11_method_4_code 11 = .ok (.aload_n 0, 1) := by decide +kernel
theorem d_Model_feed_12 : decode prog_11_method_4_code 12 = .ok (.iconst 4, 1) := by decide +kernel
theorem d_Model_feed_13 : decode prog_11_method_4_code 13 = .ok (.iload_n 2, 1) := by decide +kernel
theorem d_Model_feed_14 : decode prog_11_method_4_code 14 = .ok (.invokevirtual 102, 3) := by decide +kernel
theorem d_Model_feed_17 : decode prog_11_method_4_code 17 = .ok (.aload_n 0, 1) := by decide +kernel
theorem d_Model_feed_18 : decode prog_11_method_4_code 18 = .ok (.bipush 8, 2) := by decide +kernel
theorem d_Model_feed_20 : decode prog_11_method_4_code 20 = .ok (.iload_n 3, 1) := by decide +kernel
theorem d_Model_feed_21 : decode prog_11_method_4_code 21 = .ok (.invokevirtual 102, 3) := by decide +kernel
theorem d_Model_feed_24 : decode prog_11_method_4_code 24 = .ok (.aload_n 0, 1) := by decide +kernel
theorem d_Model_feed_25 : decode prog_11_method_4_code 25 = .ok (.bipush 12, 2) := by decide +kernel
theorem d_Model_feed_27 : decode prog_11_method_4_code 27 = .ok (.iload 4, 2) := by decide +kernel
theorem d_Model_feed_29 : decode prog_11_method_4_code 29 = .ok (.invokevirtual 102, 3) := by decide +kernel
theorem d_Model_feed_32 : decode prog_11_method_4_code 32 = .ok (.aload_n 0, 1) := by decide +kernel
theorem d_Model_feed_33 : decode prog_11_method_4_code 33 = .ok (.bipush 16, 2) := by decide +kernel
theorem d_Model_feed_35 : decode prog_11_method_4_code 35 = .ok (.iload 5, 2) := by decide +kernel
theorem d_Model_feed_37 : decode prog_11_method_4_code 37 = .ok (.invokevirtual 102, 3) := by decide +kernel
theorem d_Model_feed_40 : decode prog_11_method_4_code 40 = .ok (.return_, 1) := by decide +kernel
theorem d_Model_init_0 : decode prog_11_method_1_code 0 = .ok (.aload_n 0, 1) := by decide +kernel
theorem d_Model_init_1 : decode prog_11_method_1_code 1 = .ok (.invokespecial 1, 3) := by decide +kernel
theorem d_Model_init_4 : decode prog_11_method_1_code 4 = .ok (.aload_n 0, 1) := by decide +kernel
theorem d_Model_init_5 : decode prog_11_method_1_code 5 = .ok (.bipush 20, 2) := by decide +kernel
theorem d_Model_init_7 : decode prog_11_method_1_code 7 = .ok (.newarray .int, 2) := by decide +kernel
theorem d_Model_init_9 : decode prog_11_method_1_code 9 = .ok (.putfield 7, 3) := by decide +kernel
theorem d_Model_init_12 : decode prog_11_method_1_code 12 = .ok (.aload_n 0, 1) := by decide +kernel
theorem d_Model_init_13 : decode prog_11_method_1_code 13 = .ok (.sipush 1500, 3) := by decide +kernel
theorem d_Model_init_16 : decode prog_11_method_1_code 16 = .ok (.newarray .int, 2) := by decide +kernel
theorem d_Model_init_18 : decode prog_11_method_1_code 18 = .ok (.putfield 13, 3) := by decide +kernel
theorem d_Model_init_21 : decode prog_11_method_1_code 21 = .ok (.aload_n 0, 1) := by decide +kernel
theorem d_Model_init_22 : decode prog_11_method_1_code 22 = .ok (.bipush 40, 2) := by decide +kernel
theorem d_Model_init_24 : decode prog_11_method_1_code 24 = .ok (.newarray .int, 2) := by decide +kernel
theorem d_Model_init_26 : decode prog_11_method_1_code 26 = .ok (.putfield 16, 3) := by decide +kernel
theorem d_Model_init_29 : decode prog_11_method_1_code 29 = .ok (.aload_n 0, 1) := by decide +kernel
theorem d_Model_init_30 : decode prog_11_method_1_code 30 = .ok (.bipush 40, 2) := by decide +kernel
theorem d_Model_init_32 : decode prog_11_method_1_code 32 = .ok (.newarray .int, 2) := by decide +kernel
theorem d_Model_init_34 : decode prog_11_method_1_code 34 = .ok (.putfield 19, 3) := by decide +kernel
theorem d_Model_init_37 : decode prog_11_method_1_code 37 = .ok (.aload_n 0, 1) := by decide +kernel
theorem d_Model_init_38 : decode prog_11_method_1_code 38 = .ok (.bipush 40, 2) := by decide +kernel
theorem d_Model_init_40 : decode prog_11_method_1_code 40 = .ok (.newarray .int, 2) := by decide +kernel
theorem d_Model_init_42 : decode prog_11_method_1_code 42 = .ok (.putfield 22, 3) := by decide +kernel
theorem d_Model_init_45 : decode prog_11_method_1_code 45 = .ok (.aload_n 0, 1) := by decide +kernel
theorem d_Model_init_46 : decode prog_11_method_1_code 46 = .ok (.bipush 40, 2) := by decide +kernel
theorem d_Model_init_48 : decode prog_11_method_1_code 48 = .ok (.newarray .int, 2) := by decide +kernel
theorem d_Model_init_50 : decode prog_11_method_1_code 50 = .ok (.putfield 25, 3) := by decide +kernel
theorem d_Model_init_53 : decode prog_11_method_1_code 53 = .ok (.aload_n 0, 1) := by decide +kernel
theorem d_Model_init_54 : decode prog_11_method_1_code 54 = .ok (.sipush 1600, 3) := by decide +kernel
theorem d_Model_init_57 : decode prog_11_method_1_code 57 = .ok (.newarray .int, 2) := by decide +kernel
theorem d_Model_init_59 : decode prog_11_method_1_code 59 = .ok (.putfield 28, 3) := by decide +kernel
theorem d_Model_init_62 : decode prog_11_method_1_code 62 = .ok (.aload_n 0, 1) := by decide +kernel
theorem d_Model_init_63 : decode prog_11_method_1_code 63 = .ok (.sipush 1501, 3) := by decide +kernel
theorem d_Model_init_66 : decode prog_11_method_1_code 66 = .ok (.newarray .int, 2) := by decide +kernel
theorem d_Model_init_68 : decode prog_11_method_1_code 68 = .ok (.putfield 31, 3) := by decide +kernel
theorem d_Model_init_71 : decode prog_11_method_1_code 71 = .ok (.aload_n 0, 1) := by decide +kernel
theorem d_Model_init_72 : decode prog_11_method_1_code 72 = .ok (.sipush 1501, 3) := by decide +kernel
theorem d_Model_init_75 : decode prog_11_method_1_code 75 = .ok (.newarray .int, 2) := by decide +kernel
theorem d_Model_init_77 : decode prog_11_method_1_code 77 = .ok (.putfield 34, 3) := by decide +kernel
theorem d_Model_init_80 : decode prog_11_method_1_code 80 = .ok (.aload_n 0, 1) := by decide +kernel
theorem d_Model_init_81 : decode prog_11_method_1_code 81 = .ok (.sipush 1501, 3) := by decide +kernel
theorem d_Model_init_84 : decode prog_11_method_1_code 84 = .ok (.newarray .int, 2) := by decide +kernel
theorem d_Model_init_86 : decode prog_11_method_1_code 86 = .ok (.putfield 37, 3) := by decide +kernel
theorem d_Model_init_89 : decode prog_11_method_1_code 89 = .ok (.aload_n 0, 1) := by decide +kernel
theorem d_Model_init_90 : decode prog_11_method_1_code 90 = .ok (.sipush 1501, 3) := by decide +kernel
theorem d_Model_init_93 : decode prog_11_method_1_code 93 = .ok (.newarray .int, 2) := by decide +kernel
theorem d_Model_init_95 : decode prog_11_method_1_code 95 = .ok (.putfield 40, 3) := by decide +kernel
theorem d_Model_init_98 : decode prog_11_method_1_code 98 = .ok (.aload_n 0, 1) := by decide +kernel
theorem d_Model_init_99 : decode prog_11_method_1_code 99 = .ok (.sipush 1600, 3) := by decide +kernel
theorem d_Model_init_102 : decode prog_11_method_1_code 102 = .ok (.newarray .int, 2) := by decide +kernel
theorem d_Model_init_104 : decode prog_11_method_1_code 104 = .ok (.putfield 43, 3) := by decide +kernel
theorem d_Model_init_107 : decode prog_11_method_1_code 107 = .ok (.aload_n 0, 1) := by decide +kernel
theorem d_Model_init_108 : decode prog_11_method_1_code 108 = .ok (.sipush 20000, 3) := by decide +kernel
theorem d_Model_init_111 : decode prog_11_method_1_code 111 = .ok (.newarray .int, 2) := by decide +kernel
theorem d_Model_init_113 : decode prog_11_method_1_code 113 = .ok (.putfield 46, 3) := by decide +kernel
theorem d_Model_init_116 : decode prog_11_method_1_code 116 = .ok (.aload_n 0, 1) := by decide +kernel
theorem d_Model_init_117 : decode prog_11_method_1_code 117 = .ok (.iconst 3, 1) := by decide +kernel
theorem d_Model_init_118 : decode prog_11_method_1_code 118 = .ok (.newarray .int, 2) := by decide +kernel
theorem d_Model_init_120 : decode prog_11_method_1_code 120 = .ok (.putfield 49, 3) := by decide +kernel
theorem d_Model_init_123 : decode prog_11_method_1_code 123 = .ok (.aload_n 0, 1) := by decide +kernel
theorem d_Model_init_124 : decode prog_11_method_1_code 124 = .ok (.bipush 7, 2) := by decide +kernel
theorem d_Model_init_126 : decode prog_11_method_1_code 126 = .ok (.newarray .int, 2) := by decide +kernel
theorem d_Model_init_128 : decode prog_11_method_1_code 128 = .ok (.putfield 52, 3) := by decide +kernel
theorem d_Model_init_131 : decode prog_11_method_1_code 131 = .ok (.aload_n 0, 1) := by decide +kernel
theorem d_Model_init_132 : decode prog_11_method_1_code 132 = .ok (.sipush 7000, 3) := by decide +kernel
theorem d_Model_init_135 : decode prog_11_method_1_code 135 = .ok (.newarray .int, 2) := by decide +kernel
theorem d_Model_init_137 : decode prog_11_method_1_code 137 = .ok (.putfield 55, 3) := by decide +kernel
theorem d_Model_init_140 : decode prog_11_method_1_code 140 = .ok (.aload_n 0, 1) := by decide +kernel
theorem d_Model_init_141 : decode prog_11_method_1_code 141 = .ok (.sipush 7000, 3) := by decide +kernel
theorem d_Model_init_144 : decode prog_11_method_1_code 144 = .ok (.newarray .int, 2) := by decide +kernel
theorem d_Model_init_146 : decode prog_11_method_1_code 146 = .ok (.putfield 58, 3) := by decide +kernel
theorem d_Model_init_149 : decode prog_11_method_1_code 149 = .ok (.aload_n 0, 1) := by decide +kernel
theorem d_Model_init_150 : decode prog_11_method_1_code 150 = .ok (.sipush 1000, 3) := by decide +kernel
theorem d_Model_init_153 : decode prog_11_method_1_code 153 = .ok (.newarray .int, 2) := by decide +kernel
theorem d_Model_init_155 : decode prog_11_method_1_code 155 = .ok (.putfield 61, 3) := by decide +kernel
theorem d_Model_init_158 : decode prog_11_method_1_code 158 = .ok (.aload_n 0, 1) := by decide +kernel
theorem d_Model_init_159 : decode prog_11_method_1_code 159 = .ok (.sipush 800, 3) := by decide +kernel
theorem d_Model_init_162 : decode prog_11_method_1_code 162 = .ok (.newarray .int, 2) := by decide +kernel
theorem d_Model_init_164 : decode prog_11_method_1_code 164 = .ok (.putfield 64, 3) := by decide +kernel
theorem d_Model_init_167 : decode prog_11_method_1_code 167 = .ok (.aload_n 0, 1) := by decide +kernel
theorem d_Model_init_168 : decode prog_11_method_1_code 168 = .ok (.sipush 800, 3) := by decide +kernel
