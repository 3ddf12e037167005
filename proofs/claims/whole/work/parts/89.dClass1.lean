theorem d_Words_cut_8 : decode prog_9_method_4_code 8 = .ok (.getfield 21, 3) := by decide +kernel
theorem d_Words_cut_11 : decode prog_9_method_4_code 11 = .ok (.iconst 0, 1) := by decide +kernel
theorem d_Words_cut_12 : decode prog_9_method_4_code 12 = .ok (.invokevirtual 41, 3) := by decide +kernel
theorem d_Words_cut_15 : decode prog_9_method_4_code 15 = .ok (.aload_n 0, 1) := by decide +kernel
theorem d_Words_cut_16 : decode prog_9_method_4_code 16 = .ok (.aload_n 1, 1) := by decide +kernel
theorem d_Words_cut_17 : decode prog_9_method_4_code 17 = .ok (.putfield 25, 3) := by decide +kernel
theorem d_Words_cut_20 : decode prog_9_method_4_code 20 = .ok (.aload_n 0, 1) := by decide +kernel
theorem d_Words_cut_21 : decode prog_9_method_4_code 21 = .ok (.iload_n 2, 1) := by decide +kernel
theorem d_Words_cut_22 : decode prog_9_method_4_code 22 = .ok (.putfield 28, 3) := by decide +kernel
theorem d_Words_cut_25 : decode prog_9_method_4_code 25 = .ok (.aload_n 0, 1) := by decide +kernel
theorem d_Words_cut_26 : decode prog_9_method_4_code 26 = .ok (.aload_n 3, 1) := by decide +kernel
theorem d_Words_cut_27 : decode prog_9_method_4_code 27 = .ok (.putfield 34, 3) := by decide +kernel
theorem d_Words_cut_30 : decode prog_9_method_4_code 30 = .ok (.aload_n 0, 1) := by decide +kernel
theorem d_Words_cut_31 : decode prog_9_method_4_code 31 = .ok (.getfield 25, 3) := by decide +kernel
theorem d_Words_cut_34 : decode prog_9_method_4_code 34 = .ok (.aload_n 0, 1) := by decide +kernel
theorem d_Words_cut_35 : decode prog_9_method_4_code 35 = .ok (.getfield 28, 3) := by decide +kernel
theorem d_Words_cut_38 : decode prog_9_method_4_code 38 = .ok (.invokevirtual 45, 3) := by decide +kernel
theorem d_Words_cut_41 : decode prog_9_method_4_code 41 = .ok (.istore 5, 2) := by decide +kernel
theorem d_Words_cut_43 : decode prog_9_method_4_code 43 = .ok (.iconst 0, 1) := by decide +kernel
theorem d_Words_cut_44 : decode prog_9_method_4_code 44 = .ok (.istore 6, 2) := by decide +kernel
theorem d_Words_cut_46 : decode prog_9_method_4_code 46 = .ok (.iload 6, 2) := by decide +kernel
theorem d_Words_cut_48 : decode prog_9_method_4_code 48 = .ok (.iload 5, 2) := by decide +kernel
theorem d_Words_cut_50 : decode prog_9_method_4_code 50 = .ok (.if_icmp .ge 25, 3) := by decide +kernel
theorem d_Words_cut_53 : decode prog_9_method_4_code 53 = .ok (.iload 6, 2) := by decide +kernel
theorem d_Words_cut_55 : decode prog_9_method_4_code 55 = .ok (.iconst 1, 1) := by decide +kernel
theorem d_Words_cut_56 : decode prog_9_method_4_code 56 = .ok (.iadd, 1) := by decide +kernel
theorem d_Words_cut_57 : decode prog_9_method_4_code 57 = .ok (.aload_n 0, 1) := by decide +kernel
theorem d_Words_cut_58 : decode prog_9_method_4_code 58 = .ok (.iload 6, 2) := by decide +kernel
theorem d_Words_cut_60 : decode prog_9_method_4_code 60 = .ok (.iload 5, 2) := by decide +kernel
theorem d_Words_cut_62 : decode prog_9_method_4_code 62 = .ok (.iload 4, 2) := by decide +kernel
theorem d_Words_cut_64 : decode prog_9_method_4_code 64 = .ok (.invokevirtual 49, 3) := by decide +kernel
theorem d_Words_cut_67 : decode prog_9_method_4_code 67 = .ok (.invokestatic 53, 3) := by decide +kernel
theorem d_Words_cut_70 : decode prog_9_method_4_code 70 = .ok (.istore 6, 2) := by decide +kernel
theorem d_Words_cut_72 : decode prog_9_method_4_code 72 = .ok (.goto (-26), 3) := by decide +kernel
theorem d_Words_cut_75 : decode prog_9_method_4_code 75 = .ok (.return_, 1) := by decide +kernel
theorem d_Words_cutWord_0 : decode prog_9_method_5_code 0 = .ok (.aload_n 0, 1) := by decide +kernel
theorem d_Words_cutWord_1 : decode prog_9_method_5_code 1 = .ok (.getfield 25, 3) := by decide +kernel
theorem d_Words_cutWord_4 : decode prog_9_method_5_code 4 = .ok (.aload_n 0, 1) := by decide +kernel
theorem d_Words_cutWord_5 : decode prog_9_method_5_code 5 = .ok (.getfield 28, 3) := by decide +kernel
theorem d_Words_cutWord_8 : decode prog_9_method_5_code 8 = .ok (.iload_n 1, 1) := by decide +kernel
theorem d_Words_cutWord_9 : decode prog_9_method_5_code 9 = .ok (.invokevirtual 59, 3) := by decide +kernel
theorem d_Words_cutWord_12 : decode prog_9_method_5_code 12 = .ok (.istore 4, 2) := by decide +kernel
theorem d_Words_cutWord_14 : decode prog_9_method_5_code 14 = .ok (.iload 4, 2) := by decide +kernel
theorem d_Words_cutWord_16 : decode prog_9_method_5_code 16 = .ok (.invokestatic 62, 3) := by decide +kernel
theorem d_Words_cutWord_19 : decode prog_9_method_5_code 19 = .ok (.ifCond .eq 7, 3) := by decide +kernel
theorem d_Words_cutWord_22 : decode prog_9_method_5_code 22 = .ok (.iload_n 1, 1) := by decide +kernel
theorem d_Words_cutWord_23 : decode prog_9_method_5_code 23 = .ok (.iconst 1, 1) := by decide +kernel
theorem d_Words_cutWord_24 : decode prog_9_method_5_code 24 = .ok (.iadd, 1) := by decide +kernel
theorem d_Words_cutWord_25 : decode prog_9_method_5_code 25 = .ok (.ireturn, 1) := by decide +kernel
theorem d_Words_cutWord_26 : decode prog_9_method_5_code 26 = .ok (.iload 4, 2) := by decide +kernel
theorem d_Words_cutWord_28 : decode prog_9_method_5_code 28 = .ok (.bipush 40, 2) := by decide +kernel
theorem d_Words_cutWord_30 : decode prog_9_method_5_code 30 = .ok (.if_icmp .ne 13, 3) := by decide +kernel
theorem d_Words_cutWord_33 : decode prog_9_method_5_code 33 = .ok (.aload_n 0, 1) := by decide +kernel
theorem d_Words_cutWord_34 : decode prog_9_method_5_code 34 = .ok (.iload_n 1, 1) := by decide +kernel
theorem d_Words_cutWord_35 : decode prog_9_method_5_code 35 = .ok (.iconst 1, 1) := by decide +kernel
theorem d_Words_cutWord_36 : decode prog_9_method_5_code 36 = .ok (.iadd, 1) := by decide +kernel
theorem d_Words_cutWord_37 : decode prog_9_method_5_code 37 = .ok (.iload_n 2, 1) := by decide +kernel
theorem d_Words_cutWord_38 : decode prog_9_method_5_code 38 = .ok (.iload_n 3, 1) := by decide +kernel
theorem d_Words_cutWord_39 : decode prog_9_method_5_code 39 = .ok (.invokevirtual 66, 3) := by decide +kernel
theorem d_Words_cutWord_42 : decode prog_9_method_5_code 42 = .ok (.ireturn, 1) := by decide +kernel
theorem d_Words_cutWord_43 : decode prog_9_method_5_code 43 = .ok (.iload 4, 2) := by decide +kernel
theorem d_Words_cutWord_45 : decode prog_9_method_5_code 45 = .ok (.bipush 34, 2) := by decide +kernel
theorem d_Words_cutWord_47 : decode prog_9_method_5_code 47 = .ok (.if_icmp .ne 15, 3) := by decide +kernel
theorem d_Words_cutWord_50 : decode prog_9_method_5_code 50 = .ok (.aload_n 0, 1) := by decide +kernel
theorem d_Words_cutWord_51 : decode prog_9_method_5_code 51 = .ok (.iload_n 1, 1) := by decide +kernel
theorem d_Words_cutWord_52 : decode prog_9_method_5_code 52 = .ok (.iconst 1, 1) := by decide +kernel
theorem d_Words_cutWord_53 : decode prog_9_method_5_code 53 = .ok (.iadd, 1) := by decide +kernel
theorem d_Words_cutWord_54 : decode prog_9_method_5_code 54 = .ok (.iload_n 2, 1) := by decide +kernel
theorem d_Words_cutWord_55 : decode prog_9_method_5_code 55 = .ok (.bipush 34, 2) := by decide +kernel
theorem d_Words_cutWord_57 : decode prog_9_method_5_code 57 = .ok (.iconst 2, 1) := by decide +kernel
theorem d_Words_cutWord_58 : decode prog_9_method_5_code 58 = .ok (.invokevirtual 69, 3) := by decide +kernel
theorem d_Words_cutWord_61 : decode prog_9_method_5_code 61 = .ok (.ireturn, 1) := by decide +kernel
theorem d_Words_cutWord_62 : decode prog_9_method_5_code 62 = .ok (.iload 4, 2) := by decide +kernel
theorem d_Words_cutWord_64 : decode prog_9_method_5_code 64 = .ok (.bipush 91, 2) := by decide +kernel
theorem d_Words_cutWord_66 : decode prog_9_method_5_code 66 = .ok (.if_icmp .ne 15, 3) := by decide +kernel
theorem d_Words_cutWord_69 : decode prog_9_method_5_code 69 = .ok (.aload_n 0, 1) := by decide +kernel
theorem d_Words_cutWord_70 : decode prog_9_method_5_code 70 = .ok (.iload_n 1, 1) := by decide +kernel
theorem d_Words_cutWord_71 : decode prog_9_method_5_code 71 = .ok (.iconst 1, 1) := by decide +kernel
theorem d_Words_cutWord_72 : decode prog_9_method_5_code 72 = .ok (.iadd, 1) := by decide +kernel
theorem d_Words_cutWord_73 : decode prog_9_method_5_code 73 = .ok (.iload_n 2, 1) := by decide +kernel
theorem d_Words_cutWord_74 : decode prog_9_method_5_code 74 = .ok (.bipush 93, 2) := by decide +kernel
theorem d_Words_cutWord_76 : decode prog_9_method_5_code 76 = .ok (.iconst 3, 1) := by decide +kernel
theorem d_Words_cutWord_77 : decode prog_9_method_5_code 77 = .ok (.invokevirtual 69, 3) := by decide +kernel
theorem d_Words_cutWord_80 : decode prog_9_method_5_code 80 = .ok (.ireturn, 1) := by decide +kernel
theorem d_Words_cutWord_81 : decode prog_9_method_5_code 81 = .ok (.aload_n 0, 1) := by decide +kernel
theorem d_Words_cutWord_82 : decode prog_9_method_5_code 82 = .ok (.iload 4, 2) := by decide +kernel
theorem d_Words_cutWord_84 : decode prog_9_method_5_code 84 = .ok (.invokevirtual 73, 3) := by decide +kernel
theorem d_Words_cutWord_87 : decode prog_9_method_5_code 87 = .ok (.ifCond .eq 22, 3) := by decide +kernel
theorem d_Words_cutWord_90 : decode prog_9_method_5_code 90 = .ok (.aload_n 0, 1) := by decide +kernel
theorem d_Words_cutWord_91 : decode prog_9_method_5_code 91 = .ok (.getfield 12, 3) := by decide +kernel
theorem d_Words_cutWord_94 : decode prog_9_method_5_code 94 = .ok (.iload 4, 2) := by decide +kernel
theorem d_Words_cutWord_96 : decode prog_9_method_5_code 96 = .ok (.invokevirtual 76, 3) := by decide +kernel
theorem d_Words_cutWord_99 : decode prog_9_method_5_code 99 = .ok (.aload_n 0, 1) := by decide +kernel
theorem d_Words_cutWord_100 : decode prog_9_method_5_code 100 = .ok (.iload 4, 2) := by decide +kernel
theorem d_Words_cutWord_102 : decode prog_9_method_5_code 102 = .ok (.invokevirtual 79, 3) := by decide +kernel
theorem d_Words_cutWord_105 : decode prog_9_method_5_code 105 = .ok (.iload_n 1, 1) := by decide +kernel
theorem d_Words_cutWord_106 : decode prog_9_method_5_code 106 = .ok (.iconst 1, 1) := by decide +kernel
theorem d_Words_cutWord_107 : decode prog_9_method_5_code 107 = .ok (.iadd, 1) := by decide +kernel
theorem d_Words_cutWord_108 : decode prog_9_method_5_code 108 = .ok (.ireturn, 1) := by decide +kernel
theorem d_Words_cutWord_109 : decode prog_9_method_5_code 109 = .ok (.aload_n 0, 1) := by decide +kernel
theorem d_Words_cutWord_110 : decode prog_9_method_5_code 110 = .ok (.iload_n 1, 1) := by decide +kernel
theorem d_Words_cutWord_111 : decode prog_9_method_5_code 111 = .ok (.iload_n 2, 1) := by decide +kernel
theorem d_Words_cutWord_112 : decode prog_9_method_5_code 112 = .ok (.invokevirtual 82, 3) := by decide +kernel
theorem d_Words_cutWord_115 : decode prog_9_method_5_code 115 = .ok (.ireturn, 1) := by decide +kernel
theorem d_Words_isNothing_0 : decode prog_9_method_12_code 0 = .ok (.iload_n 0, 1) := by decide +kernel
theorem d_Words_isNothing_1 : decode prog_9_method_12_code 1 = .ok (.bipush 32, 2) := by decide +kernel
theorem d_Words_isNothing_3 : decode prog_9_method_12_code 3 = .ok (.if_icmp .le 9, 3) := by decide +kernel
theorem d_Words_isNothing_6 : decode prog_9_method_12_code 6 = .ok (.iload_n 0, 1) := by decide +kernel
theorem d_Words_isNothing_7 : decode prog_9_method_12_code 7 = .ok (.bipush 127, 2) := by decide +kernel
theorem d_Words_isNothing_9 : decode prog_9_method_12_code 9 = .ok (.if_icmp .ne 7, 3) := by decide +kernel
theorem d_Words_isNothing_12 : decode prog_9_method_12_code 12 = .ok (.iconst 1, 1) := by decide +kernel
theorem d_Words_isNothing_13 : decode prog_9_method_12_code 13 = .ok (.goto 4, 3) := by decide +kernel
theorem d_Words_isNothing_16 : decode prog_9_method_12_code 16 = .ok (.iconst 0, 1) := by decide +kernel
theorem d_Words_isNothing_17 : decode prog_9_method_12_code 17 = .ok (.ireturn, 1) := by decide +kernel
theorem d_Words_cutComment_0 : decode prog_9_method_6_code 0 = .ok (.iconst 1, 1) := by decide +kernel
theorem d_Words_cutComment_1 : decode prog_9_method_6_code 1 = .ok (.istore 4, 2) := by decide +kernel
theorem d_Words_cutComment_3 : decode prog_9_method_6_code 3 = .ok (.iload_n 1, 1) := by decide +kernel
theorem d_Words_cutComment_4 : decode prog_9_method_6_code 4 = .ok (.istore 5, 2) := by decide +kernel
theorem d_Words_cutComment_6 : decode prog_9_method_6_code 6 = .ok (.iload 5, 2) := by decide +kernel
theorem d_Words_cutComment_8 : decode prog_9_method_6_code 8 = .ok (.iload_n 2, 1) := by decide +kernel
theorem d_Words_cutComment_9 : decode prog_9_method_6_code 9 = .ok (.if_icmp .ge 72, 3) := by decide +kernel
theorem d_Words_cutComment_12 : decode prog_9_method_6_code 12 = .ok (.aload_n 0, 1) := by decide +kernel
theorem d_Words_cutComment_13 : decode prog_9_method_6_code 13 = .ok (.getfield 25, 3) := by decide +kernel
theorem d_Words_cutComment_16 : decode prog_9_method_6_code 16 = .ok (.aload_n 0, 1) := by decide +kernel
theorem d_Words_cutComment_17 : decode prog_9_method_6_code 17 = .ok (.getfield 28, 3) := by decide +kernel
theorem d_Words_cutComment_20 : decode prog_9_method_6_code 20 = .ok (.iload 5, 2) := by decide +kernel
theorem d_Words_cutComment_22 : decode prog_9_method_6_code 22 = .ok (.invokevirtual 59, 3) := by decide +kernel
theorem d_Words_cutComment_25 : decode prog_9_method_6_code 25 = .ok (.istore 6, 2) := by decide +kernel
theorem d_Words_cutComment_27 : decode prog_9_method_6_code 27 = .ok (.iload 6, 2) := by decide +kernel
theorem d_Words_cutComment_29 : decode prog_9_method_6_code 29 = .ok (.bipush 40, 2) := by decide +kernel
theorem d_Words_cutComment_31 : decode prog_9_method_6_code 31 = .ok (.if_icmp .ne 9, 3) := by decide +kernel
theorem d_Words_cutComment_34 : decode prog_9_method_6_code 34 = .ok (.iinc 4 1, 3) := by decide +kernel
theorem d_Words_cutComment_37 : decode prog_9_method_6_code 37 = .ok (.goto 13, 3) := by decide +kernel
theorem d_Words_cutComment_40 : decode prog_9_method_6_code 40 = .ok (.iload 6, 2) := by decide +kernel
theorem d_Words_cutComment_42 : decode prog_9_method_6_code 42 = .ok (.bipush 41, 2) := by decide +kernel
theorem d_Words_cutComment_44 : decode prog_9_method_6_code 44 = .ok (.if_icmp .ne 6, 3) := by decide +kernel
theorem d_Words_cutComment_47 : decode prog_9_method_6_code 47 = .ok (.iinc 4 (-1), 3) := by decide +kernel
theorem d_Words_cutComment_50 : decode prog_9_method_6_code 50 = .ok (.iload 4, 2) := by decide +kernel
theorem d_Words_cutComment_52 : decode prog_9_method_6_code 52 = .ok (.ifCond .ne 6, 3) := by decide +kernel
theorem d_Words_cutComment_55 : decode prog_9_method_6_code 55 = .ok (.goto 26, 3) := by decide +kernel
theorem d_Words_cutComment_58 : decode prog_9_method_6_code 58 = .ok (.iload 6, 2) := by decide +kernel
theorem d_Words_cutComment_60 : decode prog_9_method_6_code 60 = .ok (.bipush 92, 2) := by decide +kernel
theorem d_Words_cutComment_62 : decode prog_9_method_6_code 62 = .ok (.if_icmp .ne 6, 3) := by decide +kernel
theorem d_Words_cutComment_65 : decode prog_9_method_6_code 65 = .ok (.iinc 5 1, 3) := by decide +kernel
theorem d_Words_cutComment_68 : decode prog_9_method_6_code 68 = .ok (.aload_n 0, 1) := by decide +kernel
theorem d_Words_cutComment_69 : decode prog_9_method_6_code 69 = .ok (.iload 5, 2) := by decide +kernel
theorem d_Words_cutComment_71 : decode prog_9_method_6_code 71 = .ok (.iload_n 2, 1) := by decide +kernel
theorem d_Words_cutComment_72 : decode prog_9_method_6_code 72 = .ok (.invokevirtual 85, 3) := by decide +kernel
theorem d_Words_cutComment_75 : decode prog_9_method_6_code 75 = .ok (.iinc 5 1, 3) := by decide +kernel
theorem d_Words_cutComment_78 : decode prog_9_method_6_code 78 = .ok (.goto (-72), 3) := by decide +kernel
theorem d_Words_cutComment_81 : decode prog_9_method_6_code 81 = .ok (.iload_n 3, 1) := by decide +kernel
theorem d_Words_cutComment_82 : decode prog_9_method_6_code 82 = .ok (.ifCond .eq 11, 3) := by decide +kernel
theorem d_Words_cutComment_85 : decode prog_9_method_6_code 85 = .ok (.aload_n 0, 1) := by decide +kernel
theorem d_Words_cutComment_86 : decode prog_9_method_6_code 86 = .ok (.iconst 4, 1) := by decide +kernel
theorem d_Words_cutComment_87 : decode prog_9_method_6_code 87 = .ok (.invokevirtual 79, 3) := by decide +kernel
theorem d_Words_cutComment_90 : decode prog_9_method_6_code 90 = .ok (.goto 10, 3) := by decide +kernel
theorem d_Words_cutComment_93 : decode prog_9_method_6_code 93 = .ok (.aload_n 0, 1) := by decide +kernel
theorem d_Words_cutComment_94 : decode prog_9_method_6_code 94 = .ok (.getfield 12, 3) := by decide +kernel
theorem d_Words_cutComment_97 : decode prog_9_method_6_code 97 = .ok (.invokevirtual 89, 3) := by decide +kernel
theorem d_Words_cutComment_100 : decode prog_9_method_6_code 100 = .ok (.iload 5, 2) := by decide +kernel
theorem d_Words_cutComment_102 : decode prog_9_method_6_code 102 = .ok (.iconst 1, 1) := by decide +kernel
theorem d_Words_cutComment_103 : decode prog_9_method_6_code 103 = .ok (.iadd, 1) := by decide +kernel
theorem d_Words_cutComment_104 : decode prog_9_method_6_code 104 = .ok (.ireturn, 1) := by decide +kernel
theorem d_Words_putWithin_0 : decode prog_9_method_9_code 0 = .ok (.iload_n 1, 1) := by decide +kernel
theorem d_Words_putWithin_1 : decode prog_9_method_9_code 1 = .ok (.iload_n 2, 1) := by decide +kernel
theorem d_Words_putWithin_2 : decode prog_9_method_9_code 2 = .ok (.if_icmp .ge 22, 3) := by decide +kernel
theorem d_Words_putWithin_5 : decode prog_9_method_9_code 5 = .ok (.aload_n 0, 1) := by decide +kernel
theorem d_Words_putWithin_6 : decode prog_9_method_9_code 6 = .ok (.getfield 12, 3) := by decide +kernel
theorem d_Words_putWithin_9 : decode prog_9_method_9_code 9 = .ok (.aload_n 0, 1) := by decide +kernel
theorem d_Words_putWithin_10 : decode prog_9_method_9_code 10 = .ok (.getfield 25, 3) := by decide +kernel
theorem d_Words_putWithin_13 : decode prog_9_method_9_code 13 = .ok (.aload_n 0, 1) := by decide +kernel
theorem d_Words_putWithin_14 : decode prog_9_method_9_code 14 = .ok (.getfield 28, 3) := by decide +kernel
theorem d_Words_putWithin_17 : decode prog_9_method_9_code 17 = .ok (.iload_n 1, 1) := by decide +kernel
theorem d_Words_putWithin_18 : decode prog_9_method_9_code 18 = .ok (.invokevirtual 59, 3) := by decide +kernel
theorem d_Words_putWithin_21 : decode prog_9_method_9_code 21 = .ok (.invokevirtual 76, 3) := by decide +kernel
theorem d_Words_putWithin_24 : decode prog_9_method_9_code 24 = .ok (.return_, 1) := by decide +kernel
theorem d_Words_close_0 : decode prog_9_method_10_code 0 = .ok (.aload_n 0, 1) := by decide +kernel
theorem d_Words_close_1 : decode prog_9_method_10_code 1 = .ok (.getfield 12, 3) := by decide +kernel
theorem d_Words_close_4 : decode prog_9_method_10_code 4 = .ok (.invokevirtual 92, 3) := by decide +kernel
theorem d_Words_close_7 : decode prog_9_method_10_code 7 = .ok (.aload_n 0, 1) := by decide +kernel
theorem d_Words_close_8 : decode prog_9_method_10_code 8 = .ok (.getfield 21, 3) := by decide +kernel
theorem d_Words_close_11 : decode prog_9_method_10_code 11 = .ok (.iload_n 1, 1) := by decide +kernel
theorem d_Words_close_12 : decode prog_9_method_10_code 12 = .ok (.invokevirtual 94, 3) := by decide +kernel
theorem d_Words_close_15 : decode prog_9_method_10_code 15 = .ok (.return_, 1) := by decide +kernel
theorem d_Texts_dropOpen_0 : decode prog_8_method_9_code 0 = .ok (.aload_n 0, 1) := by decide +kernel
theorem d_Texts_dropOpen_1 : decode prog_8_method_9_code 1 = .ok (.getfield 12, 3) := by decide +kernel
theorem d_Texts_dropOpen_4 : decode prog_8_method_9_code 4 = .ok (.aload_n 0, 1) := by decide +kernel
theorem d_Texts_dropOpen_5 : decode prog_8_method_9_code 5 = .ok (.getfield 18, 3) := by decide +kernel
theorem d_Texts_dropOpen_8 : decode prog_8_method_9_code 8 = .ok (.aload_n 0, 1) := by decide +kernel
theorem d_Texts_dropOpen_9 : decode prog_8_method_9_code 9 = .ok (.getfield 18, 3) := by decide +kernel
theorem d_Texts_dropOpen_12 : decode prog_8_method_9_code 12 = .ok (.invokevirtual 25, 3) := by decide +kernel
theorem d_Texts_dropOpen_15 : decode prog_8_method_9_code 15 = .ok (.iconst 1, 1) := by decide +kernel
theorem d_Texts_dropOpen_16 : decode prog_8_method_9_code 16 = .ok (.isub, 1) := by decide +kernel
theorem d_Texts_dropOpen_17 : decode prog_8_method_9_code 17 = .ok (.invokevirtual 29, 3) := by decide +kernel
theorem d_Texts_dropOpen_20 : decode prog_8_method_9_code 20 = .ok (.invokevirtual 43, 3) := by decide +kernel
theorem d_Texts_dropOpen_23 : decode prog_8_method_9_code 23 = .ok (.return_, 1) := by decide +kernel
theorem d_Words_cutEnclosed_0 : decode prog_9_method_7_code 0 = .ok (.iload_n 1, 1) := by decide +kernel
theorem d_Words_cutEnclosed_1 : decode prog_9_method_7_code 1 = .ok (.istore 5, 2) := by decide +kernel
theorem d_Words_cutEnclosed_3 : decode prog_9_method_7_code 3 = .ok (.iload 5, 2) := by decide +kernel
theorem d_Words_cutEnclosed_5 : decode prog_9_method_7_code 5 = .ok (.iload_n 2, 1) := by decide +kernel
theorem d_Words_cutEnclosed_6 : decode prog_9_method_7_code 6 = .ok (.if_icmp .ge 50, 3) := by decide +kernel
theorem d_Words_cutEnclosed_9 : decode prog_9_method_7_code 9 = .ok (.aload_n 0, 1) := by decide +kernel
theorem d_Words_cutEnclosed_10 : decode prog_9_method_7_code 10 = .ok (.getfield 25, 3) := by decide +kernel
theorem d_Words_cutEnclosed_13 : decode prog_9_method_7_code 13 = .ok (.aload_n 0, 1) := by decide +kernel
theorem d_Words_cutEnclosed_14 : decode prog_9_method_7_code 14 = .ok (.getfield 28, 3) := by decide +kernel
theorem d_Words_cutEnclosed_17 : decode prog_9_method_7_code 17 = .ok (.iload 5, 2) := by decide +kernel
theorem d_Words_cutEnclosed_19 : decode prog_9_method_7_code 19 = .ok (.invokevirtual 59, 3) := by decide +kernel
theorem d_Words_cutEnclosed_22 : decode prog_9_method_7_code 22 = .ok (.istore 6, 2) := by decide +kernel
theorem d_Words_cutEnclosed_24 : decode prog_9_method_7_code 24 = .ok (.iload 6, 2) := by decide +kernel
theorem d_Words_cutEnclosed_26 : decode prog_9_method_7_code 26 = .ok (.iload_n 3, 1) := by decide +kernel
theorem d_Words_cutEnclosed_27 : decode prog_9_method_7_code 27 = .ok (.if_icmp .ne 6, 3) := by decide +kernel
theorem d_Words_cutEnclosed_30 : decode prog_9_method_7_code 30 = .ok (.goto 26, 3) := by decide +kernel
theorem d_Words_cutEnclosed_33 : decode prog_9_method_7_code 33 = .ok (.iload 6, 2) := by decide +kernel
theorem d_Words_cutEnclosed_35 : decode prog_9_method_7_code 35 = .ok (.bipush 92, 2) := by decide +kernel
theorem d_Words_cutEnclosed_37 : decode prog_9_method_7_code 37 = .ok (.if_icmp .ne 6, 3) := by decide +kernel
theorem d_Words_cutEnclosed_40 : decode prog_9_method_7_code 40 = .ok (.iinc 5 1, 3) := by decide +kernel
theorem d_Words_cutEnclosed_43 : decode prog_9_method_7_code 43 = .ok (.aload_n 0, 1) := by decide +kernel
theorem d_Words_cutEnclosed_44 : decode prog_9_method_7_code 44 = .ok (.iload 5, 2) := by decide +kernel
theorem d_Words_cutEnclosed_46 : decode prog_9_method_7_code 46 = .ok (.iload_n 2, 1) := by decide +kernel
theorem d_Words_cutEnclosed_47 : decode prog_9_method_7_code 47 = .ok (.invokevirtual 85, 3) := by decide +kernel
theorem d_Words_cutEnclosed_50 : decode prog_9_method_7_code 50 = .ok (.iinc 5 1, 3) := by decide +kernel
theorem d_Words_cutEnclosed_53 : decode prog_9_method_7_code 53 = .ok (.goto (-50), 3) := by decide +kernel
theorem d_Words_cutEnclosed_56 : decode prog_9_method_7_code 56 = .ok (.aload_n 0, 1) := by decide +kernel
theorem d_Words_cutEnclosed_57 : decode prog_9_method_7_code 57 = .ok (.iload 4, 2) := by decide +kernel
theorem d_Words_cutEnclosed_59 : decode prog_9_method_7_code 59 = .ok (.invokevirtual 79, 3) := by decide +kernel
theorem d_Words_cutEnclosed_62 : decode prog_9_method_7_code 62 = .ok (.iload 5, 2) := by decide +kernel
theorem d_Words_cutEnclosed_64 : decode prog_9_method_7_code 64 = .ok (.iconst 1, 1) := by decide +kernel
theorem d_Words_cutEnclosed_65 : decode prog_9_method_7_code 65 = .ok (.iadd, 1) := by decide +kernel
theorem d_Words_cutEnclosed_66 : decode prog_9_method_7_code 66 = .ok (.ireturn, 1) := by decide +kernel
theorem d_Words_isSign_0 : decode prog_9_method_11_code 0 = .ok (.aload_n 0, 1) := by decide +kernel
theorem d_Words_isSign_1 : decode prog_9_method_11_code 1 = .ok (.getfield 34, 3) := by decide +kernel
theorem d_Words_isSign_4 : decode prog_9_method_11_code 4 = .ok (.iload_n 1, 1) := by decide +kernel
theorem d_Words_isSign_5 : decode prog_9_method_11_code 5 = .ok (.i2c, 1) := by decide +kernel
theorem d_Words_isSign_6 : decode prog_9_method_11_code 6 = .ok (.invokevirtual 97, 3) := by decide +kernel
theorem d_Words_isSign_9 : decode prog_9_method_11_code 9 = .ok (.ifCond .lt 7, 3) := by decide +kernel
theorem d_Words_isSign_12 : decode prog_9_method_11_code 12 = .ok (.iconst 1, 1) := by decide +kernel
theorem d_Words_isSign_13 : decode prog_9_method_11_code 13 = .ok (.goto 4, 3) := by decide +kernel
theorem d_Words_isSign_16 : decode prog_9_method_11_code 16 = .ok (.iconst 0, 1) := by decide +kernel
theorem d_Words_isSign_17 : decode prog_9_method_11_code 17 = .ok (.ireturn, 1) := by decide +kernel
theorem d_Words_cutAtom_0 : decode prog_9_method_8_code 0 = .ok (.iload_n 1, 1) := by decide +kernel
theorem d_Words_cutAtom_1 : decode prog_9_method_8_code 1 = .ok (.istore_n 3, 1) := by decide +kernel
theorem d_Words_cutAtom_2 : decode prog_9_method_8_code 2 = .ok (.iload_n 3, 1) := by decide +kernel
theorem d_Words_cutAtom_3 : decode prog_9_method_8_code 3 = .ok (.iload_n 2, 1) := by decide +kernel
theorem d_Words_cutAtom_4 : decode prog_9_method_8_code 4 = .ok (.if_icmp .ge 73, 3) := by decide +kernel
theorem d_Words_cutAtom_7 : decode prog_9_method_8_code 7 = .ok (.aload_n 0, 1) := by decide +kernel
theorem d_Words_cutAtom_8 : decode prog_9_method_8_code 8 = .ok (.getfield 25, 3) := by decide +kernel
theorem d_Words_cutAtom_11 : decode prog_9_method_8_code 11 = .ok (.aload_n 0, 1) := by decide +kernel
theorem d_Words_cutAtom_12 : decode prog_9_method_8_code 12 = .ok (.getfield 28, 3) := by decide +kernel
theorem d_Words_cutAtom_15 : decode prog_9_method_8_code 15 = .ok (.iload_n 3, 1) := by decide +kernel
theorem d_Words_cutAtom_16 : decode prog_9_method_8_code 16 = .ok (.invokevirtual 59, 3) := by decide +kernel
theorem d_Words_cutAtom_19 : decode prog_9_method_8_code 19 = .ok (.istore 4, 2) := by decide +kernel
theorem d_Words_cutAtom_21 : decode prog_9_method_8_code 21 = .ok (.iload 4, 2) := by decide +kernel
theorem d_Words_cutAtom_23 : decode prog_9_method_8_code 23 = .ok (.invokestatic 62, 3) := by decide +kernel
theorem d_Words_cutAtom_26 : decode prog_9_method_8_code 26 = .ok (.ifCond .ne 51, 3) := by decide +kernel
theorem d_Words_cutAtom_29 : decode prog_9_method_8_code 29 = .ok (.aload_n 0, 1) := by decide +kernel
theorem d_Words_cutAtom_30 : decode prog_9_method_8_code 30 = .ok (.iload 4, 2) := by decide +kernel
theorem d_Words_cutAtom_32 : decode prog_9_method_8_code 32 = .ok (.invokevirtual 73, 3) := by decide +kernel
theorem d_Words_cutAtom_35 : decode prog_9_method_8_code 35 = .ok (.ifCond .ne 42, 3) := by decide +kernel
theorem d_Words_cutAtom_38 : decode prog_9_method_8_code 38 = .ok (.iload 4, 2) := by decide +kernel
theorem d_Words_cutAtom_40 : decode prog_9_method_8_code 40 = .ok (.bipush 40, 2) := by decide +kernel
theorem d_Words_cutAtom_42 : decode prog_9_method_8_code 42 = .ok (.if_icmp .eq 35, 3) := by decide +kernel
theorem d_Words_cutAtom_45 : decode prog_9_method_8_code 45 = .ok (.iload 4, 2) := by decide +kernel
theorem d_Words_cutAtom_47 : decode prog_9_method_8_code 47 = .ok (.bipush 34, 2) := by decide +kernel
theorem d_Words_cutAtom_49 : decode prog_9_method_8_code 49 = .ok (.if_icmp .eq 28, 3) := by decide +kernel
theorem d_Words_cutAtom_52 : decode prog_9_method_8_code 52 = .ok (.iload 4, 2) := by decide +kernel
theorem d_Words_cutAtom_54 : decode prog_9_method_8_code 54 = .ok (.bipush 91, 2) := by decide +kernel
theorem d_Words_cutAtom_56 : decode prog_9_method_8_code 56 = .ok (.if_icmp .ne 6, 3) := by decide +kernel
theorem d_Words_cutAtom_59 : decode prog_9_method_8_code 59 = .ok (.goto 18, 3) := by decide +kernel
theorem d_Words_cutAtom_62 : decode prog_9_method_8_code 62 = .ok (.aload_n 0, 1) := by decide +kernel
theorem d_Words_cutAtom_63 : decode prog_9_method_8_code 63 = .ok (.getfield 12, 3) := by decide +kernel
theorem d_Words_cutAtom_66 : decode prog_9_method_8_code 66 = .ok (.iload 4, 2) := by decide +kernel
theorem d_Words_cutAtom_68 : decode prog_9_method_8_code 68 = .ok (.invokevirtual 76, 3) := by decide +kernel
theorem d_Words_cutAtom_71 : decode prog_9_method_8_code 71 = .ok (.iinc 3 1, 3) := by decide +kernel
theorem d_Words_cutAtom_74 : decode prog_9_method_8_code 74 = .ok (.goto (-72), 3) := by decide +kernel
theorem d_Words_cutAtom_77 : decode prog_9_method_8_code 77 = .ok (.aload_n 0, 1) := by decide +kernel
theorem d_Words_cutAtom_78 : decode prog_9_method_8_code 78 = .ok (.iconst 1, 1) := by decide +kernel
theorem d_Words_cutAtom_79 : decode prog_9_method_8_code 79 = .ok (.invokevirtual 79, 3) := by decide +kernel
theorem d_Words_cutAtom_82 : decode prog_9_method_8_code 82 = .ok (.iload_n 3, 1) := by decide +kernel
theorem d_Words_cutAtom_83 : decode prog_9_method_8_code 83 = .ok (.ireturn, 1) := by decide +kernel
theorem d_Addresses_readWords_0 : decode prog_2_method_8_code 0 = .ok (.aload_n 0, 1) := by decide +kernel
theorem d_Addresses_readWords_1 : decode prog_2_method_8_code 1 = .ok (.getfield 18, 3) := by decide +kernel
theorem d_Addresses_readWords_4 : decode prog_2_method_8_code 4 = .ok (.invokevirtual 56, 3) := by decide +kernel
theorem d_Addresses_readWords_7 : decode prog_2_method_8_code 7 = .ok (.aload_n 0, 1) := by decide +kernel
theorem d_Addresses_readWords_8 : decode prog_2_method_8_code 8 = .ok (.getfield 25, 3) := by decide +kernel
theorem d_Addresses_readWords_11 : decode prog_2_method_8_code 11 = .ok (.iconst 0, 1) := by decide +kernel
theorem d_Addresses_readWords_12 : decode prog_2_method_8_code 12 = .ok (.invokevirtual 59, 3) := by decide +kernel
theorem d_Addresses_readWords_15 : decode prog_2_method_8_code 15 = .ok (.aload_n 0, 1) := by decide +kernel
theorem d_Addresses_readWords_16 : decode prog_2_method_8_code 16 = .ok (.getfield 29, 3) := by decide +kernel
theorem d_Addresses_readWords_19 : decode prog_2_method_8_code 19 = .ok (.invokevirtual 56, 3) := by decide +kernel
theorem d_Addresses_readWords_22 : decode prog_2_method_8_code 22 = .ok (.aload_n 0, 1) := by decide +kernel
theorem d_Addresses_readWords_23 : decode prog_2_method_8_code 23 = .ok (.iconst 0, 1) := by decide +kernel
theorem d_Addresses_readWords_24 : decode prog_2_method_8_code 24 = .ok (.putfield 35, 3) := by decide +kernel
theorem d_Addresses_readWords_27 : decode prog_2_method_8_code 27 = .ok (.aload_n 0, 1) := by decide +kernel
theorem d_Addresses_readWords_28 : decode prog_2_method_8_code 28 = .ok (.iconst (-1), 1) := by decide +kernel
theorem d_Addresses_readWords_29 : decode prog_2_method_8_code 29 = .ok (.putfield 39, 3) := by decide +kernel
theorem d_Addresses_readWords_32 : decode prog_2_method_8_code 32 = .ok (.aload_n 0, 1) := by decide +kernel
theorem d_Addresses_readWords_33 : decode prog_2_method_8_code 33 = .ok (.invokevirtual 63, 3) := by decide +kernel
theorem d_Addresses_readWords_36 : decode prog_2_method_8_code 36 = .ok (.iconst 0, 1) := by decide +kernel
theorem d_Addresses_readWords_37 : decode prog_2_method_8_code 37 = .ok (.istore_n 1, 1) := by decide +kernel
theorem d_Addresses_readWords_38 : decode prog_2_method_8_code 38 = .ok (.iconst 0, 1) := by decide +kernel
theorem d_Addresses_readWords_39 : decode prog_2_method_8_code 39 = .ok (.istore_n 2, 1) := by decide +kernel
theorem d_Addresses_readWords_40 : decode prog_2_method_8_code 40 = .ok (.iload_n 2, 1) := by decide +kernel
theorem d_Addresses_readWords_41 : decode prog_2_method_8_code 41 = .ok (.aload_n 0, 1) := by decide +kernel
theorem d_Addresses_readWords_42 : decode prog_2_method_8_code 42 = .ok (.getfield 9, 3) := by decide +kernel
theorem d_Addresses_readWords_45 : decode prog_2_method_8_code 45 = .ok (.invokevirtual 66, 3) := by decide +kernel
theorem d_Addresses_readWords_48 : decode prog_2_method_8_code 48 = .ok (.invokevirtual 45, 3) := by decide +kernel
theorem d_Addresses_readWords_51 : decode prog_2_method_8_code 51 = .ok (.if_icmp .ge 108, 3) := by decide +kernel
theorem d_Addresses_readWords_54 : decode prog_2_method_8_code 54 = .ok (.aload_n 0, 1) := by decide +kernel
theorem d_Addresses_readWords_55 : decode prog_2_method_8_code 55 = .ok (.getfield 9, 3) := by decide +kernel
theorem d_Addresses_readWords_58 : decode prog_2_method_8_code 58 = .ok (.invokevirtual 66, 3) := by decide +kernel
theorem d_Addresses_readWords_61 : decode prog_2_method_8_code 61 = .ok (.iload_n 2, 1) := by decide +kernel
theorem d_Addresses_readWords_62 : decode prog_2_method_8_code 62 = .ok (.invokevirtual 49, 3) := by decide +kernel
theorem d_Addresses_readWords_65 : decode prog_2_method_8_code 65 = .ok (.istore_n 3, 1) := by decide +kernel
theorem d_Addresses_readWords_66 : decode prog_2_method_8_code 66 = .ok (.iload_n 3, 1) := by decide +kernel
theorem d_Addresses_readWords_67 : decode prog_2_method_8_code 67 = .ok (.iconst 4, 1) := by decide +kernel
theorem d_Addresses_readWords_68 : decode prog_2_method_8_code 68 = .ok (.if_icmp .ne 25, 3) := by decide +kernel
theorem d_Addresses_readWords_71 : decode prog_2_method_8_code 71 = .ok (.aload_n 0, 1) := by decide +kernel
theorem d_Addresses_readWords_72 : decode prog_2_method_8_code 72 = .ok (.aload_n 0, 1) := by decide +kernel
theorem d_Addresses_readWords_73 : decode prog_2_method_8_code 73 = .ok (.getfield 32, 3) := by decide +kernel
theorem d_Addresses_readWords_76 : decode prog_2_method_8_code 76 = .ok (.invokevirtual 45, 3) := by decide +kernel
theorem d_Addresses_readWords_79 : decode prog_2_method_8_code 79 = .ok (.ifCond .le 7, 3) := by decide +kernel
theorem d_Addresses_readWords_82 : decode prog_2_method_8_code 82 = .ok (.iload_n 2, 1) := by decide +kernel
theorem d_Addresses_readWords_83 : decode prog_2_method_8_code 83 = .ok (.goto 4, 3) := by decide +kernel
theorem d_Addresses_readWords_86 : decode prog_2_method_8_code 86 = .ok (.iconst (-1), 1) := by decide +kernel
theorem d_Addresses_readWords_87 : decode prog_2_method_8_code 87 = .ok (.putfield 42, 3) := by decide +kernel
theorem d_Addresses_readWords_90 : decode prog_2_method_8_code 90 = .ok (.goto 63, 3) := by decide +kernel
theorem d_Addresses_readWords_93 : decode prog_2_method_8_code 93 = .ok (.iload_n 1, 1) := by decide +kernel
theorem d_Addresses_readWords_94 : decode prog_2_method_8_code 94 = .ok (.ifCond .ne 29, 3) := by decide +kernel
theorem d_Addresses_readWords_97 : decode prog_2_method_8_code 97 = .ok (.iload_n 3, 1) := by decide +kernel
theorem d_Addresses_readWords_98 : decode prog_2_method_8_code 98 = .ok (.bipush 44, 2) := by decide +kernel
theorem d_Addresses_readWords_100 : decode prog_2_method_8_code 100 = .ok (.if_icmp .eq 15, 3) := by decide +kernel
theorem d_Addresses_readWords_103 : decode prog_2_method_8_code 103 = .ok (.iload_n 3, 1) := by decide +kernel
theorem d_Addresses_readWords_104 : decode prog_2_method_8_code 104 = .ok (.bipush 59, 2) := by decide +kernel
theorem d_Addresses_readWords_106 : decode prog_2_method_8_code 106 = .ok (.if_icmp .eq 9, 3) := by decide +kernel
theorem d_Addresses_readWords_109 : decode prog_2_method_8_code 109 = .ok (.iload_n 3, 1) := by decide +kernel
theorem d_Addresses_readWords_110 : decode prog_2_method_8_code 110 = .ok (.bipush 58, 2) := by decide +kernel
theorem d_Addresses_readWords_112 : decode prog_2_method_8_code 112 = .ok (.if_icmp .ne 11, 3) := by decide +kernel
theorem d_Addresses_readWords_115 : decode prog_2_method_8_code 115 = .ok (.aload_n 0, 1) := by decide +kernel
theorem d_Addresses_readWords_116 : decode prog_2_method_8_code 116 = .ok (.iload_n 3, 1) := by decide +kernel
theorem d_Addresses_readWords_117 : decode prog_2_method_8_code 117 = .ok (.invokevirtual 72, 3) := by decide +kernel
theorem d_Addresses_readWords_120 : decode prog_2_method_8_code 120 = .ok (.goto 33, 3) := by decide +kernel
theorem d_Addresses_readWords_123 : decode prog_2_method_8_code 123 = .ok (.aload_n 0, 1) := by decide +kernel
theorem d_Addresses_readWords_124 : decode prog_2_method_8_code 124 = .ok (.getfield 32, 3) := by decide +kernel
theorem d_Addresses_readWords_127 : decode prog_2_method_8_code 127 = .ok (.iload_n 2, 1) := by decide +kernel
theorem d_Addresses_readWords_128 : decode prog_2_method_8_code 128 = .ok (.invokevirtual 75, 3) := by decide +kernel
theorem d_Addresses_readWords_131 : decode prog_2_method_8_code 131 = .ok (.iload_n 3, 1) := by decide +kernel
theorem d_Addresses_readWords_132 : decode prog_2_method_8_code 132 = .ok (.bipush 60, 2) := by decide +kernel
theorem d_Addresses_readWords_134 : decode prog_2_method_8_code 134 = .ok (.if_icmp .eq 13, 3) := by decide +kernel
theorem d_Addresses_readWords_137 : decode prog_2_method_8_code 137 = .ok (.iload_n 1, 1) := by decide +kernel
theorem d_Addresses_readWords_138 : decode prog_2_method_8_code 138 = .ok (.ifCond .eq 13, 3) := by decide +kernel
theorem d_Addresses_readWords_141 : decode prog_2_method_8_code 141 = .ok (.iload_n 3, 1) := by decide +kernel
theorem d_Addresses_readWords_142 : decode prog_2_method_8_code 142 = .ok (.bipush 62, 2) := by decide +kernel
theorem d_Addresses_readWords_144 : decode prog_2_method_8_code 144 = .ok (.if_icmp .eq 7, 3) := by decide +kernel
theorem d_Addresses_readWords_147 : decode prog_2_method_8_code 147 = .ok (.iconst 1, 1) := by decide +kernel
theorem d_Addresses_readWords_148 : decode prog_2_method_8_code 148 = .ok (.goto 4, 3) := by decide +kernel
theorem d_Addresses_readWords_151 : decode prog_2_method_8_code 151 = .ok (.iconst 0, 1) := by decide +kernel
theorem d_Addresses_readWords_152 : decode prog_2_method_8_code 152 = .ok (.istore_n 1, 1) := by decide +kernel
theorem d_Addresses_readWords_153 : decode prog_2_method_8_code 153 = .ok (.iinc 2 1, 3) := by decide +kernel
theorem d_Addresses_readWords_156 : decode prog_2_method_8_code 156 = .ok (.goto (-116), 3) := by decide +kernel
theorem d_Addresses_readWords_159 : decode prog_2_method_8_code 159 = .ok (.aload_n 0, 1) := by decide +kernel
theorem d_Addresses_readWords_160 : decode prog_2_method_8_code 160 = .ok (.bipush 44, 2) := by decide +kernel
theorem d_Addresses_readWords_162 : decode prog_2_method_8_code 162 = .ok (.invokevirtual 72, 3) := by decide +kernel
theorem d_Addresses_readWords_165 : decode prog_2_method_8_code 165 = .ok (.return_, 1) := by decide +kernel
theorem d_Addresses_beginGathering_0 : decode prog_2_method_9_code 0 = .ok (.aload_n 0, 1) := by decide +kernel
theorem d_Addresses_beginGathering_1 : decode prog_2_method_9_code 1 = .ok (.getfield 32, 3) := by decide +kernel
theorem d_Addresses_beginGathering_4 : decode prog_2_method_9_code 4 = .ok (.iconst 0, 1) := by decide +kernel
theorem d_Addresses_beginGathering_5 : decode prog_2_method_9_code 5 = .ok (.invokevirtual 59, 3) := by decide +kernel
theorem d_Addresses_beginGathering_8 : decode prog_2_method_9_code 8 = .ok (.aload_n 0, 1) := by decide +kernel
theorem d_Addresses_beginGathering_9 : decode prog_2_method_9_code 9 = .ok (.iconst (-1), 1) := by decide +kernel
theorem d_Addresses_beginGathering_10 : decode prog_2_method_9_code 10 = .ok (.putfield 42, 3) := by decide +kernel
theorem d_Addresses_beginGathering_13 : decode prog_2_method_9_code 13 = .ok (.return_, 1) := by decide +kernel
theorem d_Words_kinds_0 : decode prog_9_method_3_code 0 = .ok (.aload_n 0, 1) := by decide +kernel
theorem d_Words_kinds_1 : decode prog_9_method_3_code 1 = .ok (.getfield 21, 3) := by decide +kernel
theorem d_Words_kinds_4 : decode prog_9_method_3_code 4 = .ok (.areturn, 1) := by decide +kernel
theorem d_Addresses_takeGathered_0 : decode prog_2_method_10_code 0 = .ok (.iload_n 1, 1) := by decide +kernel
theorem d_Addresses_takeGathered_1 : decode prog_2_method_10_code 1 = .ok (.bipush 58, 2) := by decide +kernel
theorem d_Addresses_takeGathered_3 : decode prog_2_method_10_code 3 = .ok (.if_icmp .ne 10, 3) := by decide +kernel
theorem d_Addresses_takeGathered_6 : decode prog_2_method_10_code 6 = .ok (.aload_n 0, 1) := by decide +kernel
theorem d_Addresses_takeGathered_7 : decode prog_2_method_10_code 7 = .ok (.invokevirtual 78, 3) := by decide +kernel
theorem d_Addresses_takeGathered_10 : decode prog_2_method_10_code 10 = .ok (.goto 30, 3) := by decide +kernel
theorem d_Addresses_takeGathered_13 : decode prog_2_method_10_code 13 = .ok (.aload_n 0, 1) := by decide +kernel
theorem d_Addresses_takeGathered_14 : decode prog_2_method_10_code 14 = .ok (.getfield 32, 3) := by decide +kernel
theorem d_Addresses_takeGathered_17 : decode prog_2_method_10_code 17 = .ok (.invokevirtual 45, 3) := by decide +kernel
theorem d_Addresses_takeGathered_20 : decode prog_2_method_10_code 20 = .ok (.ifCond .le 20, 3) := by decide +kernel
theorem d_Addresses_takeGathered_23 : decode prog_2_method_10_code 23 = .ok (.aload_n 0, 1) := by decide +kernel
theorem d_Addresses_takeGathered_24 : decode prog_2_method_10_code 24 = .ok (.invokevirtual 81, 3) := by decide +kernel
theorem d_Addresses_takeGathered_27 : decode prog_2_method_10_code 27 = .ok (.ifCond .ne 13, 3) := by decide +kernel
theorem d_Addresses_takeGathered_30 : decode prog_2_method_10_code 30 = .ok (.aload_n 0, 1) := by decide +kernel
theorem d_Addresses_takeGathered_31 : decode prog_2_method_10_code 31 = .ok (.dup, 1) := by decide +kernel
theorem d_Addresses_takeGathered_32 : decode prog_2_method_10_code 32 = .ok (.getfield 35, 3) := by decide +kernel
theorem d_Addresses_takeGathered_35 : decode prog_2_method_10_code 35 = .ok (.iconst 1, 1) := by decide +kernel
theorem d_Addresses_takeGathered_36 : decode prog_2_method_10_code 36 = .ok (.iadd, 1) := by decide +kernel
theorem d_Addresses_takeGathered_37 : decode prog_2_method_10_code 37 = .ok (.putfield 35, 3) := by decide +kernel
theorem d_Addresses_takeGathered_40 : decode prog_2_method_10_code 40 = .ok (.iload_n 1, 1) := by decide +kernel
theorem d_Addresses_takeGathered_41 : decode prog_2_method_10_code 41 = .ok (.bipush 59, 2) := by decide +kernel
theorem d_Addresses_takeGathered_43 : decode prog_2_method_10_code 43 = .ok (.if_icmp .ne 8, 3) := by decide +kernel
theorem d_Addresses_takeGathered_46 : decode prog_2_method_10_code 46 = .ok (.aload_n 0, 1) := by decide +kernel
theorem d_Addresses_takeGathered_47 : decode prog_2_method_10_code 47 = .ok (.iconst (-1), 1) := by decide +kernel
theorem d_Addresses_takeGathered_48 : decode prog_2_method_10_code 48 = .ok (.putfield 39, 3) := by decide +kernel
theorem d_Addresses_takeGathered_51 : decode prog_2_method_10_code 51 = .ok (.aload_n 0, 1) := by decide +kernel
