theorem d_Head_takeLine_0 : decode prog_5_method_8_code 0 = .ok (.iload_n 2, 1) := by decide +kernel
theorem d_Head_takeLine_1 : decode prog_5_method_8_code 1 = .ok (.iload_n 3, 1) := by decide +kernel
theorem d_Head_takeLine_2 : decode prog_5_method_8_code 2 = .ok (.if_icmp .ge 23, 3) := by decide +kernel
theorem d_Head_takeLine_5 : decode prog_5_method_8_code 5 = .ok (.aload_n 1, 1) := by decide +kernel
theorem d_Head_takeLine_6 : decode prog_5_method_8_code 6 = .ok (.iload_n 2, 1) := by decide +kernel
theorem d_Head_takeLine_7 : decode prog_5_method_8_code 7 = .ok (.invokevirtual 43, 3) := by decide +kernel
theorem d_Head_takeLine_10 : decode prog_5_method_8_code 10 = .ok (.invokestatic 54, 3) := by decide +kernel
theorem d_Head_takeLine_13 : decode prog_5_method_8_code 13 = .ok (.ifCond .eq 12, 3) := by decide +kernel
theorem d_Head_takeLine_16 : decode prog_5_method_8_code 16 = .ok (.aload_n 0, 1) := by decide +kernel
theorem d_Head_takeLine_17 : decode prog_5_method_8_code 17 = .ok (.aload_n 1, 1) := by decide +kernel
theorem d_Head_takeLine_18 : decode prog_5_method_8_code 18 = .ok (.iload_n 2, 1) := by decide +kernel
theorem d_Head_takeLine_19 : decode prog_5_method_8_code 19 = .ok (.iload_n 3, 1) := by decide +kernel
theorem d_Head_takeLine_20 : decode prog_5_method_8_code 20 = .ok (.invokevirtual 58, 3) := by decide +kernel
theorem d_Head_takeLine_23 : decode prog_5_method_8_code 23 = .ok (.iconst 1, 1) := by decide +kernel
theorem d_Head_takeLine_24 : decode prog_5_method_8_code 24 = .ok (.ireturn, 1) := by decide +kernel
theorem d_Head_takeLine_25 : decode prog_5_method_8_code 25 = .ok (.aload_n 1, 1) := by decide +kernel
theorem d_Head_takeLine_26 : decode prog_5_method_8_code 26 = .ok (.iload_n 2, 1) := by decide +kernel
theorem d_Head_takeLine_27 : decode prog_5_method_8_code 27 = .ok (.iload_n 3, 1) := by decide +kernel
theorem d_Head_takeLine_28 : decode prog_5_method_8_code 28 = .ok (.invokestatic 62, 3) := by decide +kernel
theorem d_Head_takeLine_31 : decode prog_5_method_8_code 31 = .ok (.istore 4, 2) := by decide +kernel
theorem d_Head_takeLine_33 : decode prog_5_method_8_code 33 = .ok (.aload_n 1, 1) := by decide +kernel
theorem d_Head_takeLine_34 : decode prog_5_method_8_code 34 = .ok (.iload 4, 2) := by decide +kernel
theorem d_Head_takeLine_36 : decode prog_5_method_8_code 36 = .ok (.iload_n 3, 1) := by decide +kernel
theorem d_Head_takeLine_37 : decode prog_5_method_8_code 37 = .ok (.invokestatic 66, 3) := by decide +kernel
theorem d_Head_takeLine_40 : decode prog_5_method_8_code 40 = .ok (.istore 5, 2) := by decide +kernel
theorem d_Head_takeLine_42 : decode prog_5_method_8_code 42 = .ok (.aload_n 0, 1) := by decide +kernel
theorem d_Head_takeLine_43 : decode prog_5_method_8_code 43 = .ok (.invokevirtual 51, 3) := by decide +kernel
theorem d_Head_takeLine_46 : decode prog_5_method_8_code 46 = .ok (.iload 4, 2) := by decide +kernel
theorem d_Head_takeLine_48 : decode prog_5_method_8_code 48 = .ok (.iload_n 2, 1) := by decide +kernel
theorem d_Head_takeLine_49 : decode prog_5_method_8_code 49 = .ok (.if_icmp .eq 20, 3) := by decide +kernel
theorem d_Head_takeLine_52 : decode prog_5_method_8_code 52 = .ok (.iload 5, 2) := by decide +kernel
theorem d_Head_takeLine_54 : decode prog_5_method_8_code 54 = .ok (.iload_n 3, 1) := by decide +kernel
theorem d_Head_takeLine_55 : decode prog_5_method_8_code 55 = .ok (.if_icmp .ge 14, 3) := by decide +kernel
theorem d_Head_takeLine_58 : decode prog_5_method_8_code 58 = .ok (.aload_n 1, 1) := by decide +kernel
theorem d_Head_takeLine_59 : decode prog_5_method_8_code 59 = .ok (.iload 5, 2) := by decide +kernel
theorem d_Head_takeLine_61 : decode prog_5_method_8_code 61 = .ok (.invokevirtual 43, 3) := by decide +kernel
theorem d_Head_takeLine_64 : decode prog_5_method_8_code 64 = .ok (.bipush 58, 2) := by decide +kernel
theorem d_Head_takeLine_66 : decode prog_5_method_8_code 66 = .ok (.if_icmp .eq 15, 3) := by decide +kernel
theorem d_Head_takeLine_69 : decode prog_5_method_8_code 69 = .ok (.aload_n 0, 1) := by decide +kernel
theorem d_Head_takeLine_70 : decode prog_5_method_8_code 70 = .ok (.dup, 1) := by decide +kernel
theorem d_Head_takeLine_71 : decode prog_5_method_8_code 71 = .ok (.getfield 18, 3) := by decide +kernel
theorem d_Head_takeLine_74 : decode prog_5_method_8_code 74 = .ok (.iconst 1, 1) := by decide +kernel
theorem d_Head_takeLine_75 : decode prog_5_method_8_code 75 = .ok (.iadd, 1) := by decide +kernel
theorem d_Head_takeLine_76 : decode prog_5_method_8_code 76 = .ok (.putfield 18, 3) := by decide +kernel
theorem d_Head_takeLine_79 : decode prog_5_method_8_code 79 = .ok (.iconst 1, 1) := by decide +kernel
theorem d_Head_takeLine_80 : decode prog_5_method_8_code 80 = .ok (.ireturn, 1) := by decide +kernel
theorem d_Head_takeLine_81 : decode prog_5_method_8_code 81 = .ok (.aload_n 0, 1) := by decide +kernel
theorem d_Head_takeLine_82 : decode prog_5_method_8_code 82 = .ok (.invokevirtual 30, 3) := by decide +kernel
theorem d_Head_takeLine_85 : decode prog_5_method_8_code 85 = .ok (.bipush 40, 2) := by decide +kernel
theorem d_Head_takeLine_87 : decode prog_5_method_8_code 87 = .ok (.if_icmp .lt 5, 3) := by decide +kernel
theorem d_Head_takeLine_90 : decode prog_5_method_8_code 90 = .ok (.iconst 0, 1) := by decide +kernel
theorem d_Head_takeLine_91 : decode prog_5_method_8_code 91 = .ok (.ireturn, 1) := by decide +kernel
theorem d_Head_takeLine_92 : decode prog_5_method_8_code 92 = .ok (.aload_n 0, 1) := by decide +kernel
theorem d_Head_takeLine_93 : decode prog_5_method_8_code 93 = .ok (.aload_n 1, 1) := by decide +kernel
theorem d_Head_takeLine_94 : decode prog_5_method_8_code 94 = .ok (.iload_n 2, 1) := by decide +kernel
theorem d_Head_takeLine_95 : decode prog_5_method_8_code 95 = .ok (.iload 4, 2) := by decide +kernel
theorem d_Head_takeLine_97 : decode prog_5_method_8_code 97 = .ok (.invokevirtual 69, 3) := by decide +kernel
theorem d_Head_takeLine_100 : decode prog_5_method_8_code 100 = .ok (.aload_n 0, 1) := by decide +kernel
theorem d_Head_takeLine_101 : decode prog_5_method_8_code 101 = .ok (.getfield 12, 3) := by decide +kernel
theorem d_Head_takeLine_104 : decode prog_5_method_8_code 104 = .ok (.invokevirtual 72, 3) := by decide +kernel
theorem d_Head_takeLine_107 : decode prog_5_method_8_code 107 = .ok (.aload_n 0, 1) := by decide +kernel
theorem d_Head_takeLine_108 : decode prog_5_method_8_code 108 = .ok (.aload_n 1, 1) := by decide +kernel
theorem d_Head_takeLine_109 : decode prog_5_method_8_code 109 = .ok (.iload 5, 2) := by decide +kernel
theorem d_Head_takeLine_111 : decode prog_5_method_8_code 111 = .ok (.iconst 1, 1) := by decide +kernel
theorem d_Head_takeLine_112 : decode prog_5_method_8_code 112 = .ok (.iadd, 1) := by decide +kernel
theorem d_Head_takeLine_113 : decode prog_5_method_8_code 113 = .ok (.iload_n 3, 1) := by decide +kernel
theorem d_Head_takeLine_114 : decode prog_5_method_8_code 114 = .ok (.invokevirtual 69, 3) := by decide +kernel
theorem d_Head_takeLine_117 : decode prog_5_method_8_code 117 = .ok (.aload_n 0, 1) := by decide +kernel
theorem d_Head_takeLine_118 : decode prog_5_method_8_code 118 = .ok (.iconst 1, 1) := by decide +kernel
theorem d_Head_takeLine_119 : decode prog_5_method_8_code 119 = .ok (.putfield 22, 3) := by decide +kernel
theorem d_Head_takeLine_122 : decode prog_5_method_8_code 122 = .ok (.iconst 1, 1) := by decide +kernel
theorem d_Head_takeLine_123 : decode prog_5_method_8_code 123 = .ok (.ireturn, 1) := by decide +kernel
theorem d_Mail_isBlank_0 : decode prog_1_method_21_code 0 = .ok (.iload_n 0, 1) := by decide +kernel
theorem d_Mail_isBlank_1 : decode prog_1_method_21_code 1 = .ok (.bipush 32, 2) := by decide +kernel
theorem d_Mail_isBlank_3 : decode prog_1_method_21_code 3 = .ok (.if_icmp .eq 9, 3) := by decide +kernel
theorem d_Mail_isBlank_6 : decode prog_1_method_21_code 6 = .ok (.iload_n 0, 1) := by decide +kernel
theorem d_Mail_isBlank_7 : decode prog_1_method_21_code 7 = .ok (.bipush 9, 2) := by decide +kernel
theorem d_Mail_isBlank_9 : decode prog_1_method_21_code 9 = .ok (.if_icmp .ne 7, 3) := by decide +kernel
theorem d_Mail_isBlank_12 : decode prog_1_method_21_code 12 = .ok (.iconst 1, 1) := by decide +kernel
theorem d_Mail_isBlank_13 : decode prog_1_method_21_code 13 = .ok (.goto 4, 3) := by decide +kernel
theorem d_Mail_isBlank_16 : decode prog_1_method_21_code 16 = .ok (.iconst 0, 1) := by decide +kernel
theorem d_Mail_isBlank_17 : decode prog_1_method_21_code 17 = .ok (.ireturn, 1) := by decide +kernel
theorem d_Head_takeFolded_0 : decode prog_5_method_9_code 0 = .ok (.aload_n 0, 1) := by decide +kernel
theorem d_Head_takeFolded_1 : decode prog_5_method_9_code 1 = .ok (.getfield 22, 3) := by decide +kernel
theorem d_Head_takeFolded_4 : decode prog_5_method_9_code 4 = .ok (.ifCond .eq 13, 3) := by decide +kernel
theorem d_Head_takeFolded_7 : decode prog_5_method_9_code 7 = .ok (.aload_n 0, 1) := by decide +kernel
theorem d_Head_takeFolded_8 : decode prog_5_method_9_code 8 = .ok (.aload_n 1, 1) := by decide +kernel
theorem d_Head_takeFolded_9 : decode prog_5_method_9_code 9 = .ok (.iload_n 2, 1) := by decide +kernel
theorem d_Head_takeFolded_10 : decode prog_5_method_9_code 10 = .ok (.iload_n 3, 1) := by decide +kernel
theorem d_Head_takeFolded_11 : decode prog_5_method_9_code 11 = .ok (.invokevirtual 69, 3) := by decide +kernel
theorem d_Head_takeFolded_14 : decode prog_5_method_9_code 14 = .ok (.goto 13, 3) := by decide +kernel
theorem d_Head_takeFolded_17 : decode prog_5_method_9_code 17 = .ok (.aload_n 0, 1) := by decide +kernel
theorem d_Head_takeFolded_18 : decode prog_5_method_9_code 18 = .ok (.dup, 1) := by decide +kernel
theorem d_Head_takeFolded_19 : decode prog_5_method_9_code 19 = .ok (.getfield 18, 3) := by decide +kernel
theorem d_Head_takeFolded_22 : decode prog_5_method_9_code 22 = .ok (.iconst 1, 1) := by decide +kernel
theorem d_Head_takeFolded_23 : decode prog_5_method_9_code 23 = .ok (.iadd, 1) := by decide +kernel
theorem d_Head_takeFolded_24 : decode prog_5_method_9_code 24 = .ok (.putfield 18, 3) := by decide +kernel
theorem d_Head_takeFolded_27 : decode prog_5_method_9_code 27 = .ok (.return_, 1) := by decide +kernel
theorem d_Head_putBytes_0 : decode prog_5_method_12_code 0 = .ok (.iload_n 2, 1) := by decide +kernel
theorem d_Head_putBytes_1 : decode prog_5_method_12_code 1 = .ok (.istore 4, 2) := by decide +kernel
theorem d_Head_putBytes_3 : decode prog_5_method_12_code 3 = .ok (.iload 4, 2) := by decide +kernel
theorem d_Head_putBytes_5 : decode prog_5_method_12_code 5 = .ok (.iload_n 3, 1) := by decide +kernel
theorem d_Head_putBytes_6 : decode prog_5_method_12_code 6 = .ok (.if_icmp .ge 22, 3) := by decide +kernel
theorem d_Head_putBytes_9 : decode prog_5_method_12_code 9 = .ok (.aload_n 0, 1) := by decide +kernel
theorem d_Head_putBytes_10 : decode prog_5_method_12_code 10 = .ok (.getfield 12, 3) := by decide +kernel
theorem d_Head_putBytes_13 : decode prog_5_method_12_code 13 = .ok (.aload_n 1, 1) := by decide +kernel
theorem d_Head_putBytes_14 : decode prog_5_method_12_code 14 = .ok (.iload 4, 2) := by decide +kernel
theorem d_Head_putBytes_16 : decode prog_5_method_12_code 16 = .ok (.invokevirtual 43, 3) := by decide +kernel
theorem d_Head_putBytes_19 : decode prog_5_method_12_code 19 = .ok (.invokevirtual 75, 3) := by decide +kernel
theorem d_Head_putBytes_22 : decode prog_5_method_12_code 22 = .ok (.iinc 4 1, 3) := by decide +kernel
theorem d_Head_putBytes_25 : decode prog_5_method_12_code 25 = .ok (.goto (-22), 3) := by decide +kernel
theorem d_Head_putBytes_28 : decode prog_5_method_12_code 28 = .ok (.return_, 1) := by decide +kernel
theorem d_Head_nameEnd_0 : decode prog_5_method_10_code 0 = .ok (.iload_n 1, 1) := by decide +kernel
theorem d_Head_nameEnd_1 : decode prog_5_method_10_code 1 = .ok (.istore_n 3, 1) := by decide +kernel
theorem d_Head_nameEnd_2 : decode prog_5_method_10_code 2 = .ok (.iload_n 3, 1) := by decide +kernel
theorem d_Head_nameEnd_3 : decode prog_5_method_10_code 3 = .ok (.iload_n 2, 1) := by decide +kernel
theorem d_Head_nameEnd_4 : decode prog_5_method_10_code 4 = .ok (.if_icmp .ge 39, 3) := by decide +kernel
theorem d_Head_nameEnd_7 : decode prog_5_method_10_code 7 = .ok (.aload_n 0, 1) := by decide +kernel
theorem d_Head_nameEnd_8 : decode prog_5_method_10_code 8 = .ok (.iload_n 3, 1) := by decide +kernel
theorem d_Head_nameEnd_9 : decode prog_5_method_10_code 9 = .ok (.invokevirtual 43, 3) := by decide +kernel
theorem d_Head_nameEnd_12 : decode prog_5_method_10_code 12 = .ok (.istore 4, 2) := by decide +kernel
theorem d_Head_nameEnd_14 : decode prog_5_method_10_code 14 = .ok (.iload 4, 2) := by decide +kernel
theorem d_Head_nameEnd_16 : decode prog_5_method_10_code 16 = .ok (.bipush 33, 2) := by decide +kernel
theorem d_Head_nameEnd_18 : decode prog_5_method_10_code 18 = .ok (.if_icmp .lt 17, 3) := by decide +kernel
theorem d_Head_nameEnd_21 : decode prog_5_method_10_code 21 = .ok (.iload 4, 2) := by decide +kernel
theorem d_Head_nameEnd_23 : decode prog_5_method_10_code 23 = .ok (.bipush 126, 2) := by decide +kernel
theorem d_Head_nameEnd_25 : decode prog_5_method_10_code 25 = .ok (.if_icmp .gt 10, 3) := by decide +kernel
theorem d_Head_nameEnd_28 : decode prog_5_method_10_code 28 = .ok (.iload 4, 2) := by decide +kernel
theorem d_Head_nameEnd_30 : decode prog_5_method_10_code 30 = .ok (.bipush 58, 2) := by decide +kernel
theorem d_Head_nameEnd_32 : decode prog_5_method_10_code 32 = .ok (.if_icmp .ne 5, 3) := by decide +kernel
theorem d_Head_nameEnd_35 : decode prog_5_method_10_code 35 = .ok (.iload_n 3, 1) := by decide +kernel
theorem d_Head_nameEnd_36 : decode prog_5_method_10_code 36 = .ok (.ireturn, 1) := by decide +kernel
theorem d_Head_nameEnd_37 : decode prog_5_method_10_code 37 = .ok (.iinc 3 1, 3) := by decide +kernel
theorem d_Head_nameEnd_40 : decode prog_5_method_10_code 40 = .ok (.goto (-38), 3) := by decide +kernel
theorem d_Head_nameEnd_43 : decode prog_5_method_10_code 43 = .ok (.iload_n 2, 1) := by decide +kernel
theorem d_Head_nameEnd_44 : decode prog_5_method_10_code 44 = .ok (.ireturn, 1) := by decide +kernel
theorem d_Head_behindBlanks_0 : decode prog_5_method_11_code 0 = .ok (.iload_n 1, 1) := by decide +kernel
theorem d_Head_behindBlanks_1 : decode prog_5_method_11_code 1 = .ok (.istore_n 3, 1) := by decide +kernel
theorem d_Head_behindBlanks_2 : decode prog_5_method_11_code 2 = .ok (.iload_n 3, 1) := by decide +kernel
theorem d_Head_behindBlanks_3 : decode prog_5_method_11_code 3 = .ok (.iload_n 2, 1) := by decide +kernel
theorem d_Head_behindBlanks_4 : decode prog_5_method_11_code 4 = .ok (.if_icmp .ge 22, 3) := by decide +kernel
theorem d_Head_behindBlanks_7 : decode prog_5_method_11_code 7 = .ok (.aload_n 0, 1) := by decide +kernel
theorem d_Head_behindBlanks_8 : decode prog_5_method_11_code 8 = .ok (.iload_n 3, 1) := by decide +kernel
theorem d_Head_behindBlanks_9 : decode prog_5_method_11_code 9 = .ok (.invokevirtual 43, 3) := by decide +kernel
theorem d_Head_behindBlanks_12 : decode prog_5_method_11_code 12 = .ok (.invokestatic 54, 3) := by decide +kernel
theorem d_Head_behindBlanks_15 : decode prog_5_method_11_code 15 = .ok (.ifCond .ne 5, 3) := by decide +kernel
theorem d_Head_behindBlanks_18 : decode prog_5_method_11_code 18 = .ok (.iload_n 3, 1) := by decide +kernel
theorem d_Head_behindBlanks_19 : decode prog_5_method_11_code 19 = .ok (.ireturn, 1) := by decide +kernel
theorem d_Head_behindBlanks_20 : decode prog_5_method_11_code 20 = .ok (.iinc 3 1, 3) := by decide +kernel
theorem d_Head_behindBlanks_23 : decode prog_5_method_11_code 23 = .ok (.goto (-21), 3) := by decide +kernel
theorem d_Head_behindBlanks_26 : decode prog_5_method_11_code 26 = .ok (.iload_n 2, 1) := by decide +kernel
theorem d_Head_behindBlanks_27 : decode prog_5_method_11_code 27 = .ok (.ireturn, 1) := by decide +kernel
theorem d_Texts_isNamed_0 : decode prog_8_method_11_code 0 = .ok (.aload_n 0, 1) := by decide +kernel
theorem d_Texts_isNamed_1 : decode prog_8_method_11_code 1 = .ok (.iload_n 1, 1) := by decide +kernel
theorem d_Texts_isNamed_2 : decode prog_8_method_11_code 2 = .ok (.invokevirtual 33, 3) := by decide +kernel
theorem d_Texts_isNamed_5 : decode prog_8_method_11_code 5 = .ok (.aload_n 2, 1) := by decide +kernel
theorem d_Texts_isNamed_6 : decode prog_8_method_11_code 6 = .ok (.invokevirtual 25, 3) := by decide +kernel
theorem d_Texts_isNamed_9 : decode prog_8_method_11_code 9 = .ok (.if_icmp .eq 5, 3) := by decide +kernel
theorem d_Texts_isNamed_12 : decode prog_8_method_11_code 12 = .ok (.iconst 0, 1) := by decide +kernel
theorem d_Texts_isNamed_13 : decode prog_8_method_11_code 13 = .ok (.ireturn, 1) := by decide +kernel
theorem d_Texts_isNamed_14 : decode prog_8_method_11_code 14 = .ok (.iconst 0, 1) := by decide +kernel
theorem d_Texts_isNamed_15 : decode prog_8_method_11_code 15 = .ok (.istore_n 3, 1) := by decide +kernel
theorem d_Texts_isNamed_16 : decode prog_8_method_11_code 16 = .ok (.iload_n 3, 1) := by decide +kernel
theorem d_Texts_isNamed_17 : decode prog_8_method_11_code 17 = .ok (.aload_n 2, 1) := by decide +kernel
theorem d_Texts_isNamed_18 : decode prog_8_method_11_code 18 = .ok (.invokevirtual 25, 3) := by decide +kernel
theorem d_Texts_isNamed_21 : decode prog_8_method_11_code 21 = .ok (.if_icmp .ge 31, 3) := by decide +kernel
theorem d_Texts_isNamed_24 : decode prog_8_method_11_code 24 = .ok (.aload_n 0, 1) := by decide +kernel
theorem d_Texts_isNamed_25 : decode prog_8_method_11_code 25 = .ok (.iload_n 1, 1) := by decide +kernel
theorem d_Texts_isNamed_26 : decode prog_8_method_11_code 26 = .ok (.iload_n 3, 1) := by decide +kernel
theorem d_Texts_isNamed_27 : decode prog_8_method_11_code 27 = .ok (.invokevirtual 36, 3) := by decide +kernel
theorem d_Texts_isNamed_30 : decode prog_8_method_11_code 30 = .ok (.invokestatic 40, 3) := by decide +kernel
theorem d_Texts_isNamed_33 : decode prog_8_method_11_code 33 = .ok (.aload_n 2, 1) := by decide +kernel
theorem d_Texts_isNamed_34 : decode prog_8_method_11_code 34 = .ok (.iload_n 3, 1) := by decide +kernel
theorem d_Texts_isNamed_35 : decode prog_8_method_11_code 35 = .ok (.invokevirtual 29, 3) := by decide +kernel
theorem d_Texts_isNamed_38 : decode prog_8_method_11_code 38 = .ok (.invokestatic 40, 3) := by decide +kernel
theorem d_Texts_isNamed_41 : decode prog_8_method_11_code 41 = .ok (.if_icmp .eq 5, 3) := by decide +kernel
theorem d_Texts_isNamed_44 : decode prog_8_method_11_code 44 = .ok (.iconst 0, 1) := by decide +kernel
theorem d_Texts_isNamed_45 : decode prog_8_method_11_code 45 = .ok (.ireturn, 1) := by decide +kernel
theorem d_Texts_isNamed_46 : decode prog_8_method_11_code 46 = .ok (.iinc 3 1, 3) := by decide +kernel
theorem d_Texts_isNamed_49 : decode prog_8_method_11_code 49 = .ok (.goto (-33), 3) := by decide +kernel
theorem d_Texts_isNamed_52 : decode prog_8_method_11_code 52 = .ok (.iconst 1, 1) := by decide +kernel
theorem d_Texts_isNamed_53 : decode prog_8_method_11_code 53 = .ok (.ireturn, 1) := by decide +kernel
theorem d_Mail_small_0 : decode prog_1_method_22_code 0 = .ok (.iload_n 0, 1) := by decide +kernel
theorem d_Mail_small_1 : decode prog_1_method_22_code 1 = .ok (.bipush 65, 2) := by decide +kernel
theorem d_Mail_small_3 : decode prog_1_method_22_code 3 = .ok (.if_icmp .lt 16, 3) := by decide +kernel
theorem d_Mail_small_6 : decode prog_1_method_22_code 6 = .ok (.iload_n 0, 1) := by decide +kernel
theorem d_Mail_small_7 : decode prog_1_method_22_code 7 = .ok (.bipush 90, 2) := by decide +kernel
theorem d_Mail_small_9 : decode prog_1_method_22_code 9 = .ok (.if_icmp .gt 10, 3) := by decide +kernel
theorem d_Mail_small_12 : decode prog_1_method_22_code 12 = .ok (.iload_n 0, 1) := by decide +kernel
theorem d_Mail_small_13 : decode prog_1_method_22_code 13 = .ok (.bipush 32, 2) := by decide +kernel
theorem d_Mail_small_15 : decode prog_1_method_22_code 15 = .ok (.iadd, 1) := by decide +kernel
theorem d_Mail_small_16 : decode prog_1_method_22_code 16 = .ok (.goto 4, 3) := by decide +kernel
theorem d_Mail_small_19 : decode prog_1_method_22_code 19 = .ok (.iload_n 0, 1) := by decide +kernel
theorem d_Mail_small_20 : decode prog_1_method_22_code 20 = .ok (.ireturn, 1) := by decide +kernel
theorem d_ContentType_putCharset_0 : decode prog_3_method_9_code 0 = .ok (.aload_n 0, 1) := by decide +kernel
theorem d_ContentType_putCharset_1 : decode prog_3_method_9_code 1 = .ok (.getfield 35, 3) := by decide +kernel
theorem d_ContentType_putCharset_4 : decode prog_3_method_9_code 4 = .ok (.iload_n 1, 1) := by decide +kernel
theorem d_ContentType_putCharset_5 : decode prog_3_method_9_code 5 = .ok (.invokevirtual 54, 3) := by decide +kernel
theorem d_ContentType_putCharset_8 : decode prog_3_method_9_code 8 = .ok (.iconst 1, 1) := by decide +kernel
theorem d_ContentType_putCharset_9 : decode prog_3_method_9_code 9 = .ok (.if_icmp .ne 12, 3) := by decide +kernel
theorem d_ContentType_putCharset_12 : decode prog_3_method_9_code 12 = .ok (.aload_n 0, 1) := by decide +kernel
theorem d_ContentType_putCharset_13 : decode prog_3_method_9_code 13 = .ok (.iload_n 1, 1) := by decide +kernel
theorem d_ContentType_putCharset_14 : decode prog_3_method_9_code 14 = .ok (.iconst 0, 1) := by decide +kernel
theorem d_ContentType_putCharset_15 : decode prog_3_method_9_code 15 = .ok (.invokevirtual 114, 3) := by decide +kernel
theorem d_ContentType_putCharset_18 : decode prog_3_method_9_code 18 = .ok (.goto 4, 3) := by decide +kernel
theorem d_ContentType_putCharset_21 : decode prog_3_method_9_code 21 = .ok (.iconst (-1), 1) := by decide +kernel
theorem d_ContentType_putCharset_22 : decode prog_3_method_9_code 22 = .ok (.istore_n 2, 1) := by decide +kernel
theorem d_ContentType_putCharset_23 : decode prog_3_method_9_code 23 = .ok (.iload_n 2, 1) := by decide +kernel
theorem d_ContentType_putCharset_24 : decode prog_3_method_9_code 24 = .ok (.iconst (-1), 1) := by decide +kernel
theorem d_ContentType_putCharset_25 : decode prog_3_method_9_code 25 = .ok (.if_icmp .eq 14, 3) := by decide +kernel
theorem d_ContentType_putCharset_28 : decode prog_3_method_9_code 28 = .ok (.aload_n 0, 1) := by decide +kernel
theorem d_ContentType_putCharset_29 : decode prog_3_method_9_code 29 = .ok (.iload_n 1, 1) := by decide +kernel
theorem d_ContentType_putCharset_30 : decode prog_3_method_9_code 30 = .ok (.iload_n 2, 1) := by decide +kernel
theorem d_ContentType_putCharset_31 : decode prog_3_method_9_code 31 = .ok (.iconst 1, 1) := by decide +kernel
theorem d_ContentType_putCharset_32 : decode prog_3_method_9_code 32 = .ok (.iadd, 1) := by decide +kernel
theorem d_ContentType_putCharset_33 : decode prog_3_method_9_code 33 = .ok (.invokevirtual 114, 3) := by decide +kernel
theorem d_ContentType_putCharset_36 : decode prog_3_method_9_code 36 = .ok (.goto 4, 3) := by decide +kernel
theorem d_ContentType_putCharset_39 : decode prog_3_method_9_code 39 = .ok (.iconst (-1), 1) := by decide +kernel
theorem d_ContentType_putCharset_40 : decode prog_3_method_9_code 40 = .ok (.istore_n 3, 1) := by decide +kernel
theorem d_ContentType_putCharset_41 : decode prog_3_method_9_code 41 = .ok (.iload_n 3, 1) := by decide +kernel
theorem d_ContentType_putCharset_42 : decode prog_3_method_9_code 42 = .ok (.iconst (-1), 1) := by decide +kernel
theorem d_ContentType_putCharset_43 : decode prog_3_method_9_code 43 = .ok (.if_icmp .eq 16, 3) := by decide +kernel
theorem d_ContentType_putCharset_46 : decode prog_3_method_9_code 46 = .ok (.aload_n 0, 1) := by decide +kernel
theorem d_ContentType_putCharset_47 : decode prog_3_method_9_code 47 = .ok (.getfield 38, 3) := by decide +kernel
theorem d_ContentType_putCharset_50 : decode prog_3_method_9_code 50 = .ok (.aload_n 0, 1) := by decide +kernel
theorem d_ContentType_putCharset_51 : decode prog_3_method_9_code 51 = .ok (.getfield 25, 3) := by decide +kernel
theorem d_ContentType_putCharset_54 : decode prog_3_method_9_code 54 = .ok (.iload_n 1, 1) := by decide +kernel
theorem d_ContentType_putCharset_55 : decode prog_3_method_9_code 55 = .ok (.iload_n 2, 1) := by decide +kernel
theorem d_ContentType_putCharset_56 : decode prog_3_method_9_code 56 = .ok (.invokevirtual 75, 3) := by decide +kernel
theorem d_ContentType_putCharset_59 : decode prog_3_method_9_code 59 = .ok (.aload_n 0, 1) := by decide +kernel
theorem d_ContentType_putCharset_60 : decode prog_3_method_9_code 60 = .ok (.getfield 38, 3) := by decide +kernel
theorem d_ContentType_putCharset_63 : decode prog_3_method_9_code 63 = .ok (.invokevirtual 79, 3) := by decide +kernel
theorem d_ContentType_putCharset_66 : decode prog_3_method_9_code 66 = .ok (.iload_n 3, 1) := by decide +kernel
theorem d_ContentType_putCharset_67 : decode prog_3_method_9_code 67 = .ok (.iconst (-1), 1) := by decide +kernel
theorem d_ContentType_putCharset_68 : decode prog_3_method_9_code 68 = .ok (.if_icmp .eq 9, 3) := by decide +kernel
theorem d_ContentType_putCharset_71 : decode prog_3_method_9_code 71 = .ok (.iload_n 3, 1) := by decide +kernel
theorem d_ContentType_putCharset_72 : decode prog_3_method_9_code 72 = .ok (.iconst 1, 1) := by decide +kernel
theorem d_ContentType_putCharset_73 : decode prog_3_method_9_code 73 = .ok (.iadd, 1) := by decide +kernel
theorem d_ContentType_putCharset_74 : decode prog_3_method_9_code 74 = .ok (.goto 4, 3) := by decide +kernel
theorem d_ContentType_putCharset_77 : decode prog_3_method_9_code 77 = .ok (.iconst 0, 1) := by decide +kernel
theorem d_ContentType_putCharset_78 : decode prog_3_method_9_code 78 = .ok (.ireturn, 1) := by decide +kernel
theorem d_ContentType_quoteFrom_0 : decode prog_3_method_10_code 0 = .ok (.aload_n 0, 1) := by decide +kernel
theorem d_ContentType_quoteFrom_1 : decode prog_3_method_10_code 1 = .ok (.getfield 25, 3) := by decide +kernel
theorem d_ContentType_quoteFrom_4 : decode prog_3_method_10_code 4 = .ok (.iload_n 1, 1) := by decide +kernel
theorem d_ContentType_quoteFrom_5 : decode prog_3_method_10_code 5 = .ok (.invokevirtual 72, 3) := by decide +kernel
theorem d_ContentType_quoteFrom_8 : decode prog_3_method_10_code 8 = .ok (.istore_n 3, 1) := by decide +kernel
theorem d_ContentType_quoteFrom_9 : decode prog_3_method_10_code 9 = .ok (.iload_n 2, 1) := by decide +kernel
theorem d_ContentType_quoteFrom_10 : decode prog_3_method_10_code 10 = .ok (.istore 4, 2) := by decide +kernel
theorem d_ContentType_quoteFrom_12 : decode prog_3_method_10_code 12 = .ok (.iload 4, 2) := by decide +kernel
theorem d_ContentType_quoteFrom_14 : decode prog_3_method_10_code 14 = .ok (.iload_n 3, 1) := by decide +kernel
theorem d_ContentType_quoteFrom_15 : decode prog_3_method_10_code 15 = .ok (.if_icmp .ge 27, 3) := by decide +kernel
theorem d_ContentType_quoteFrom_18 : decode prog_3_method_10_code 18 = .ok (.aload_n 0, 1) := by decide +kernel
theorem d_ContentType_quoteFrom_19 : decode prog_3_method_10_code 19 = .ok (.getfield 25, 3) := by decide +kernel
theorem d_ContentType_quoteFrom_22 : decode prog_3_method_10_code 22 = .ok (.iload_n 1, 1) := by decide +kernel
theorem d_ContentType_quoteFrom_23 : decode prog_3_method_10_code 23 = .ok (.iload 4, 2) := by decide +kernel
theorem d_ContentType_quoteFrom_25 : decode prog_3_method_10_code 25 = .ok (.invokevirtual 82, 3) := by decide +kernel
theorem d_ContentType_quoteFrom_28 : decode prog_3_method_10_code 28 = .ok (.bipush 39, 2) := by decide +kernel
theorem d_ContentType_quoteFrom_30 : decode prog_3_method_10_code 30 = .ok (.if_icmp .ne 6, 3) := by decide +kernel
theorem d_ContentType_quoteFrom_33 : decode prog_3_method_10_code 33 = .ok (.iload 4, 2) := by decide +kernel
theorem d_ContentType_quoteFrom_35 : decode prog_3_method_10_code 35 = .ok (.ireturn, 1) := by decide +kernel
theorem d_ContentType_quoteFrom_36 : decode prog_3_method_10_code 36 = .ok (.iinc 4 1, 3) := by decide +kernel
theorem d_ContentType_quoteFrom_39 : decode prog_3_method_10_code 39 = .ok (.goto (-27), 3) := by decide +kernel
theorem d_ContentType_quoteFrom_42 : decode prog_3_method_10_code 42 = .ok (.iconst (-1), 1) := by decide +kernel
theorem d_ContentType_quoteFrom_43 : decode prog_3_method_10_code 43 = .ok (.ireturn, 1) := by decide +kernel
theorem d_Texts_putSmall_0 : decode prog_8_method_7_code 0 = .ok (.iconst 0, 1) := by decide +kernel
theorem d_Texts_putSmall_1 : decode prog_8_method_7_code 1 = .ok (.istore 4, 2) := by decide +kernel
theorem d_Texts_putSmall_3 : decode prog_8_method_7_code 3 = .ok (.iload 4, 2) := by decide +kernel
theorem d_Texts_putSmall_5 : decode prog_8_method_7_code 5 = .ok (.iload_n 3, 1) := by decide +kernel
theorem d_Texts_putSmall_6 : decode prog_8_method_7_code 6 = .ok (.if_icmp .ge 26, 3) := by decide +kernel
theorem d_Texts_putSmall_9 : decode prog_8_method_7_code 9 = .ok (.aload_n 0, 1) := by decide +kernel
theorem d_Texts_putSmall_10 : decode prog_8_method_7_code 10 = .ok (.getfield 12, 3) := by decide +kernel
theorem d_Texts_putSmall_13 : decode prog_8_method_7_code 13 = .ok (.aload_n 1, 1) := by decide +kernel
theorem d_Texts_putSmall_14 : decode prog_8_method_7_code 14 = .ok (.iload_n 2, 1) := by decide +kernel
theorem d_Texts_putSmall_15 : decode prog_8_method_7_code 15 = .ok (.iload 4, 2) := by decide +kernel
theorem d_Texts_putSmall_17 : decode prog_8_method_7_code 17 = .ok (.invokevirtual 36, 3) := by decide +kernel
theorem d_Texts_putSmall_20 : decode prog_8_method_7_code 20 = .ok (.invokestatic 40, 3) := by decide +kernel
theorem d_Texts_putSmall_23 : decode prog_8_method_7_code 23 = .ok (.invokevirtual 21, 3) := by decide +kernel
theorem d_Texts_putSmall_26 : decode prog_8_method_7_code 26 = .ok (.iinc 4 1, 3) := by decide +kernel
theorem d_Texts_putSmall_29 : decode prog_8_method_7_code 29 = .ok (.goto (-26), 3) := by decide +kernel
theorem d_Texts_putSmall_32 : decode prog_8_method_7_code 32 = .ok (.return_, 1) := by decide +kernel
theorem d_ContentType_putBytes_0 : decode prog_3_method_11_code 0 = .ok (.aload_n 0, 1) := by decide +kernel
theorem d_ContentType_putBytes_1 : decode prog_3_method_11_code 1 = .ok (.getfield 35, 3) := by decide +kernel
theorem d_ContentType_putBytes_4 : decode prog_3_method_11_code 4 = .ok (.iload_n 1, 1) := by decide +kernel
theorem d_ContentType_putBytes_5 : decode prog_3_method_11_code 5 = .ok (.invokevirtual 54, 3) := by decide +kernel
theorem d_ContentType_putBytes_8 : decode prog_3_method_11_code 8 = .ok (.iconst 1, 1) := by decide +kernel
theorem d_ContentType_putBytes_9 : decode prog_3_method_11_code 9 = .ok (.if_icmp .ne 7, 3) := by decide +kernel
theorem d_ContentType_putBytes_12 : decode prog_3_method_11_code 12 = .ok (.iconst 1, 1) := by decide +kernel
theorem d_ContentType_putBytes_13 : decode prog_3_method_11_code 13 = .ok (.goto 4, 3) := by decide +kernel
theorem d_ContentType_putBytes_16 : decode prog_3_method_11_code 16 = .ok (.iconst 0, 1) := by decide +kernel
theorem d_ContentType_putBytes_17 : decode prog_3_method_11_code 17 = .ok (.istore_n 3, 1) := by decide +kernel
theorem d_ContentType_putBytes_18 : decode prog_3_method_11_code 18 = .ok (.aload_n 0, 1) := by decide +kernel
theorem d_ContentType_putBytes_19 : decode prog_3_method_11_code 19 = .ok (.getfield 25, 3) := by decide +kernel
theorem d_ContentType_putBytes_22 : decode prog_3_method_11_code 22 = .ok (.iload_n 1, 1) := by decide +kernel
theorem d_ContentType_putBytes_23 : decode prog_3_method_11_code 23 = .ok (.invokevirtual 72, 3) := by decide +kernel
theorem d_ContentType_putBytes_26 : decode prog_3_method_11_code 26 = .ok (.istore 4, 2) := by decide +kernel
theorem d_ContentType_putBytes_28 : decode prog_3_method_11_code 28 = .ok (.iload_n 2, 1) := by decide +kernel
theorem d_ContentType_putBytes_29 : decode prog_3_method_11_code 29 = .ok (.istore 5, 2) := by decide +kernel
theorem d_ContentType_putBytes_31 : decode prog_3_method_11_code 31 = .ok (.iload 5, 2) := by decide +kernel
theorem d_ContentType_putBytes_33 : decode prog_3_method_11_code 33 = .ok (.iload 4, 2) := by decide +kernel
theorem d_ContentType_putBytes_35 : decode prog_3_method_11_code 35 = .ok (.if_icmp .ge 77, 3) := by decide +kernel
theorem d_ContentType_putBytes_38 : decode prog_3_method_11_code 38 = .ok (.aload_n 0, 1) := by decide +kernel
theorem d_ContentType_putBytes_39 : decode prog_3_method_11_code 39 = .ok (.getfield 25, 3) := by decide +kernel
theorem d_ContentType_putBytes_42 : decode prog_3_method_11_code 42 = .ok (.iload_n 1, 1) := by decide +kernel
theorem d_ContentType_putBytes_43 : decode prog_3_method_11_code 43 = .ok (.iload 5, 2) := by decide +kernel
theorem d_ContentType_putBytes_45 : decode prog_3_method_11_code 45 = .ok (.invokevirtual 82, 3) := by decide +kernel
theorem d_ContentType_putBytes_48 : decode prog_3_method_11_code 48 = .ok (.istore 6, 2) := by decide +kernel
theorem d_ContentType_putBytes_50 : decode prog_3_method_11_code 50 = .ok (.iload_n 3, 1) := by decide +kernel
theorem d_ContentType_putBytes_51 : decode prog_3_method_11_code 51 = .ok (.ifCond .eq 22, 3) := by decide +kernel
theorem d_ContentType_putBytes_54 : decode prog_3_method_11_code 54 = .ok (.iload 6, 2) := by decide +kernel
theorem d_ContentType_putBytes_56 : decode prog_3_method_11_code 56 = .ok (.bipush 37, 2) := by decide +kernel
theorem d_ContentType_putBytes_58 : decode prog_3_method_11_code 58 = .ok (.if_icmp .ne 15, 3) := by decide +kernel
theorem d_ContentType_putBytes_61 : decode prog_3_method_11_code 61 = .ok (.aload_n 0, 1) := by decide +kernel
theorem d_ContentType_putBytes_62 : decode prog_3_method_11_code 62 = .ok (.iload_n 1, 1) := by decide +kernel
theorem d_ContentType_putBytes_63 : decode prog_3_method_11_code 63 = .ok (.iload 5, 2) := by decide +kernel
theorem d_ContentType_putBytes_65 : decode prog_3_method_11_code 65 = .ok (.iconst 1, 1) := by decide +kernel
theorem d_ContentType_putBytes_66 : decode prog_3_method_11_code 66 = .ok (.iadd, 1) := by decide +kernel
theorem d_ContentType_putBytes_67 : decode prog_3_method_11_code 67 = .ok (.invokevirtual 117, 3) := by decide +kernel
theorem d_ContentType_putBytes_70 : decode prog_3_method_11_code 70 = .ok (.goto 4, 3) := by decide +kernel
theorem d_ContentType_putBytes_73 : decode prog_3_method_11_code 73 = .ok (.iconst (-1), 1) := by decide +kernel
theorem d_ContentType_putBytes_74 : decode prog_3_method_11_code 74 = .ok (.istore 7, 2) := by decide +kernel
theorem d_ContentType_putBytes_76 : decode prog_3_method_11_code 76 = .ok (.iload 7, 2) := by decide +kernel
theorem d_ContentType_putBytes_78 : decode prog_3_method_11_code 78 = .ok (.iconst (-1), 1) := by decide +kernel
theorem d_ContentType_putBytes_79 : decode prog_3_method_11_code 79 = .ok (.if_icmp .ne 15, 3) := by decide +kernel
theorem d_ContentType_putBytes_82 : decode prog_3_method_11_code 82 = .ok (.aload_n 0, 1) := by decide +kernel
theorem d_ContentType_putBytes_83 : decode prog_3_method_11_code 83 = .ok (.getfield 38, 3) := by decide +kernel
theorem d_ContentType_putBytes_86 : decode prog_3_method_11_code 86 = .ok (.iload 6, 2) := by decide +kernel
theorem d_ContentType_putBytes_88 : decode prog_3_method_11_code 88 = .ok (.invokevirtual 120, 3) := by decide +kernel
theorem d_ContentType_putBytes_91 : decode prog_3_method_11_code 91 = .ok (.goto 15, 3) := by decide +kernel
theorem d_ContentType_putBytes_94 : decode prog_3_method_11_code 94 = .ok (.aload_n 0, 1) := by decide +kernel
theorem d_ContentType_putBytes_95 : decode prog_3_method_11_code 95 = .ok (.getfield 38, 3) := by decide +kernel
theorem d_ContentType_putBytes_98 : decode prog_3_method_11_code 98 = .ok (.iload 7, 2) := by decide +kernel
theorem d_ContentType_putBytes_100 : decode prog_3_method_11_code 100 = .ok (.invokevirtual 120, 3) := by decide +kernel
theorem d_ContentType_putBytes_103 : decode prog_3_method_11_code 103 = .ok (.iinc 5 2, 3) := by decide +kernel
theorem d_ContentType_putBytes_106 : decode prog_3_method_11_code 106 = .ok (.iinc 5 1, 3) := by decide +kernel
theorem d_ContentType_putBytes_109 : decode prog_3_method_11_code 109 = .ok (.goto (-78), 3) := by decide +kernel
theorem d_ContentType_putBytes_112 : decode prog_3_method_11_code 112 = .ok (.return_, 1) := by decide +kernel
theorem d_ContentType_hexadecimal_0 : decode prog_3_method_12_code 0 = .ok (.aload_n 0, 1) := by decide +kernel
theorem d_ContentType_hexadecimal_1 : decode prog_3_method_12_code 1 = .ok (.getfield 25, 3) := by decide +kernel
theorem d_ContentType_hexadecimal_4 : decode prog_3_method_12_code 4 = .ok (.iload_n 1, 1) := by decide +kernel
theorem d_ContentType_hexadecimal_5 : decode prog_3_method_12_code 5 = .ok (.iload_n 2, 1) := by decide +kernel
theorem d_ContentType_hexadecimal_6 : decode prog_3_method_12_code 6 = .ok (.invokevirtual 82, 3) := by decide +kernel
theorem d_ContentType_hexadecimal_9 : decode prog_3_method_12_code 9 = .ok (.invokestatic 123, 3) := by decide +kernel
theorem d_ContentType_hexadecimal_12 : decode prog_3_method_12_code 12 = .ok (.istore_n 3, 1) := by decide +kernel
theorem d_ContentType_hexadecimal_13 : decode prog_3_method_12_code 13 = .ok (.aload_n 0, 1) := by decide +kernel
theorem d_ContentType_hexadecimal_14 : decode prog_3_method_12_code 14 = .ok (.getfield 25, 3) := by decide +kernel
theorem d_ContentType_hexadecimal_17 : decode prog_3_method_12_code 17 = .ok (.iload_n 1, 1) := by decide +kernel
theorem d_ContentType_hexadecimal_18 : decode prog_3_method_12_code 18 = .ok (.iload_n 2, 1) := by decide +kernel
theorem d_ContentType_hexadecimal_19 : decode prog_3_method_12_code 19 = .ok (.iconst 1, 1) := by decide +kernel
theorem d_ContentType_hexadecimal_20 : decode prog_3_method_12_code 20 = .ok (.iadd, 1) := by decide +kernel
theorem d_ContentType_hexadecimal_21 : decode prog_3_method_12_code 21 = .ok (.invokevirtual 82, 3) := by decide +kernel
theorem d_ContentType_hexadecimal_24 : decode prog_3_method_12_code 24 = .ok (.invokestatic 123, 3) := by decide +kernel
theorem d_ContentType_hexadecimal_27 : decode prog_3_method_12_code 27 = .ok (.istore 4, 2) := by decide +kernel
theorem d_ContentType_hexadecimal_29 : decode prog_3_method_12_code 29 = .ok (.iload_n 3, 1) := by decide +kernel
theorem d_ContentType_hexadecimal_30 : decode prog_3_method_12_code 30 = .ok (.iconst (-1), 1) := by decide +kernel
theorem d_ContentType_hexadecimal_31 : decode prog_3_method_12_code 31 = .ok (.if_icmp .eq 9, 3) := by decide +kernel
theorem d_ContentType_hexadecimal_34 : decode prog_3_method_12_code 34 = .ok (.iload 4, 2) := by decide +kernel
theorem d_ContentType_hexadecimal_36 : decode prog_3_method_12_code 36 = .ok (.iconst (-1), 1) := by decide +kernel
theorem d_ContentType_hexadecimal_37 : decode prog_3_method_12_code 37 = .ok (.if_icmp .ne 7, 3) := by decide +kernel
theorem d_ContentType_hexadecimal_40 : decode prog_3_method_12_code 40 = .ok (.iconst (-1), 1) := by decide +kernel
theorem d_ContentType_hexadecimal_41 : decode prog_3_method_12_code 41 = .ok (.goto 10, 3) := by decide +kernel
theorem d_ContentType_hexadecimal_44 : decode prog_3_method_12_code 44 = .ok (.bipush 16, 2) := by decide +kernel
theorem d_ContentType_hexadecimal_46 : decode prog_3_method_12_code 46 = .ok (.iload_n 3, 1) := by decide +kernel
theorem d_ContentType_hexadecimal_47 : decode prog_3_method_12_code 47 = .ok (.imul, 1) := by decide +kernel
theorem d_ContentType_hexadecimal_48 : decode prog_3_method_12_code 48 = .ok (.iload 4, 2) := by decide +kernel
theorem d_ContentType_hexadecimal_50 : decode prog_3_method_12_code 50 = .ok (.iadd, 1) := by decide +kernel
theorem d_ContentType_hexadecimal_51 : decode prog_3_method_12_code 51 = .ok (.ireturn, 1) := by decide +kernel
theorem d_ContentType_hexDigit_0 : decode prog_3_method_13_code 0 = .ok (.iload_n 0, 1) := by decide +kernel
theorem d_ContentType_hexDigit_1 : decode prog_3_method_13_code 1 = .ok (.invokestatic 126, 3) := by decide +kernel
theorem d_ContentType_hexDigit_4 : decode prog_3_method_13_code 4 = .ok (.istore_n 1, 1) := by decide +kernel
theorem d_ContentType_hexDigit_5 : decode prog_3_method_13_code 5 = .ok (.iload_n 1, 1) := by decide +kernel
theorem d_ContentType_hexDigit_6 : decode prog_3_method_13_code 6 = .ok (.bipush 97, 2) := by decide +kernel
theorem d_ContentType_hexDigit_8 : decode prog_3_method_13_code 8 = .ok (.if_icmp .lt 19, 3) := by decide +kernel
theorem d_ContentType_hexDigit_11 : decode prog_3_method_13_code 11 = .ok (.iload_n 1, 1) := by decide +kernel
theorem d_ContentType_hexDigit_12 : decode prog_3_method_13_code 12 = .ok (.bipush 102, 2) := by decide +kernel
theorem d_ContentType_hexDigit_14 : decode prog_3_method_13_code 14 = .ok (.if_icmp .gt 13, 3) := by decide +kernel
theorem d_ContentType_hexDigit_17 : decode prog_3_method_13_code 17 = .ok (.iload_n 1, 1) := by decide +kernel
theorem d_ContentType_hexDigit_18 : decode prog_3_method_13_code 18 = .ok (.bipush 97, 2) := by decide +kernel
theorem d_ContentType_hexDigit_20 : decode prog_3_method_13_code 20 = .ok (.isub, 1) := by decide +kernel
theorem d_ContentType_hexDigit_21 : decode prog_3_method_13_code 21 = .ok (.bipush 10, 2) := by decide +kernel
theorem d_ContentType_hexDigit_23 : decode prog_3_method_13_code 23 = .ok (.iadd, 1) := by decide +kernel
theorem d_ContentType_hexDigit_24 : decode prog_3_method_13_code 24 = .ok (.goto 7, 3) := by decide +kernel
theorem d_ContentType_hexDigit_27 : decode prog_3_method_13_code 27 = .ok (.iload_n 0, 1) := by decide +kernel
theorem d_ContentType_hexDigit_28 : decode prog_3_method_13_code 28 = .ok (.invokestatic 86, 3) := by decide +kernel
theorem d_ContentType_hexDigit_31 : decode prog_3_method_13_code 31 = .ok (.ireturn, 1) := by decide +kernel
theorem d_Mail_digit_0 : decode prog_1_method_23_code 0 = .ok (.iload_n 0, 1) := by decide +kernel
theorem d_Mail_digit_1 : decode prog_1_method_23_code 1 = .ok (.bipush 48, 2) := by decide +kernel
theorem d_Mail_digit_3 : decode prog_1_method_23_code 3 = .ok (.if_icmp .lt 16, 3) := by decide +kernel
theorem d_Mail_digit_6 : decode prog_1_method_23_code 6 = .ok (.iload_n 0, 1) := by decide +kernel
theorem d_Mail_digit_7 : decode prog_1_method_23_code 7 = .ok (.bipush 57, 2) := by decide +kernel
theorem d_Mail_digit_9 : decode prog_1_method_23_code 9 = .ok (.if_icmp .gt 10, 3) := by decide +kernel
theorem d_Mail_digit_12 : decode prog_1_method_23_code 12 = .ok (.iload_n 0, 1) := by decide +kernel
theorem d_Mail_digit_13 : decode prog_1_method_23_code 13 = .ok (.bipush 48, 2) := by decide +kernel
theorem d_Mail_digit_15 : decode prog_1_method_23_code 15 = .ok (.isub, 1) := by decide +kernel
theorem d_Mail_digit_16 : decode prog_1_method_23_code 16 = .ok (.goto 4, 3) := by decide +kernel
theorem d_Mail_digit_19 : decode prog_1_method_23_code 19 = .ok (.iconst (-1), 1) := by decide +kernel
theorem d_Mail_digit_20 : decode prog_1_method_23_code 20 = .ok (.ireturn, 1) := by decide +kernel
theorem d_Words_cut_0 : decode prog_9_method_4_code 0 = .ok (.aload_n 0, 1) := by decide +kernel
theorem d_Words_cut_1 : decode prog_9_method_4_code 1 = .ok (.getfield 12, 3) := by decide +kernel
theorem d_Words_cut_4 : decode prog_9_method_4_code 4 = .ok (.invokevirtual 38, 3) := by decide +kernel
theorem d_Words_cut_7 : decode prog_9_method_4_code 7 = .ok (.aload_n 0, 1) := by decide +kernel
